set_option maxHeartbeats 4000000 in
set_option maxRecDepth 100000 in
theorem law_end {p : Program} {l : Launch} {e : Env} {s : State} {m : MethodId} {below : List Frame} {meth : Method} {c : Code} {b : Nat} {xs : Nat → Int32} (C0 : lw_At p s m meth c b 6 xs) {A : Nat → Prop} (hAs : ∀ q, A q → s.heap.size ≤ q) {H : Heap} {locs : List Loc} {ls : Array Slot} (hS : va_S A s.heap H locs) (hl : lv_has ls 9 [(0, .ref b), (5, .int 0)]) : W p l e room_1 s m #[Value.ref b] below meth c H locs 100000 1000000 (lw_Z below #[Value.ref b] s) (F0 m 2046 ls []) := by
  obtain ⟨hx, hb, hr, hml, hown, hts0, hX, hbl, hlocks, hgv⟩ := C0
  have hts : ∀ w ∈ wsL_law, w.before #[Value.ref b] s = true := fun w h => hts0 w (wsL_law_in w h)
  have hbA : ¬ A b := fun h9 => absurd (hAs b h9) (Nat.not_le.mpr hbl)
  refine lv_iinc (v := 6) (lv' := [(5, .int 6), (0, .ref b)]) hx hb dL_law_2046 hl (k := 1) rfl (by decide) (by decide) rfl (fun ls hl => ?_)
  refine lv_goto (tgt := 28) hx hb dL_law_2049 (by decide) ?_
  refine lv_iload hx hb dL_law_28 (lv_at hl 0 rfl) ?_
  refine lv_aload_n hx hb dL_law_30 rfl (lv_at hl 1 rfl) ?_
  refine va_slen hx hb hX hbl hbA hS dL_law_31 ?_
  refine w_top (y := 6) rfl ?_
  refine lv_bipush (v := 6) hx hb dL_law_32 (by decide) ?_
  refine lv_isub hx hb dL_law_34 ?_
  refine w_top (y := 0) (by decide) ?_
  refine lv_icmp_gt (tgt := 2052) hx hb dL_law_35 (by decide) (fun c_35 => ?_) (fun c_35 => absurd (by decide) c_35)
  refine lv_iconst (v := 1) hx hb dL_law_2052 (by decide) ?_
  refine va_forget (fun q hq => hAs _ (hS.2.2 q hq)) ?_
  refine W.widen (k := 600006) (n := 7302072) (Nat.le_of_ble_eq_true rfl) (Nat.le_of_ble_eq_true rfl) ?_
  exact lw_ret (d0 := s.drawn) (Drawn.sameBut.refl s.drawn lw_cs) hx hb hr hlocks dL_law_2053

/-- the law's world behind its beginning -/
abbrev wL (k : Nat → ClassId) (to mo o od e0 : Nat) (u0 w0 : Nat → Nat) : va_W := [(to, .inr (12, [.ref (u0 0), .ref (u0 1), .ref (u0 2), .ref (u0 3), .ref (u0 4), .ref (u0 5), .int 0, .int 0, .int 0])), ((u0 0), .inl (k 3, 4, .inr (.inr (.inr (.inr (fun i => some (u0 (6 + i)))))))), ((u0 1), .inr (2, [.int 0, .ref e0, .int 0])), ((u0 2), .inr (2, [.int 0, .ref e0, .int 0])), ((u0 3), .inr (2, [.int 0, .ref e0, .int 0])), ((u0 6), .inr (4, [.ref (u0 10), .ref (u0 14), .int 0, .int 0, .int 0])), ((u0 10), .inl (k 0, 768, .inl (fun _ => 0))), ((u0 14), .inr (8, [.ref (u0 18), .int 1, .ref (u0 22)])), ((u0 18), .inl (k 1, 768, .inr (.inl (fun _ => 0)))), ((u0 7), .inr (4, [.ref (u0 11), .ref (u0 15), .int 0, .int 0, .int 0])), ((u0 11), .inl (k 0, 768, .inl (fun _ => 0))), ((u0 15), .inr (8, [.ref (u0 19), .int 1, .ref (u0 23)])), ((u0 19), .inl (k 1, 768, .inr (.inl (fun _ => 0)))), ((u0 8), .inr (4, [.ref (u0 12), .ref (u0 16), .int 0, .int 0, .int 0])), ((u0 12), .inl (k 0, 768, .inl (fun _ => 0))), ((u0 16), .inr (8, [.ref (u0 20), .int 1, .ref (u0 24)])), ((u0 20), .inl (k 1, 768, .inr (.inl (fun _ => 0)))), ((u0 9), .inr (4, [.ref (u0 13), .ref (u0 17), .int 0, .int 0, .int 0])), ((u0 13), .inl (k 0, 768, .inl (fun _ => 0))), ((u0 17), .inr (8, [.ref (u0 21), .int 1, .ref (u0 25)])), ((u0 21), .inl (k 1, 768, .inr (.inl (fun _ => 0)))), (mo, .inr (13, [.int 0, .ref (w0 0), .int 0, .ref (w0 1), .int 0, .int 0, .ref (w0 2), .int 0, .ref (w0 3), .ref (w0 4), .int 0])), ((w0 0), .inl (k 5, 3, .inr (.inr (.inr (.inr (fun i => some (w0 (5 + i)))))))), ((w0 5), .inl (k 0, 768, .inl (fun _ => 0))), ((w0 6), .inl (k 0, 768, .inl (fun _ => 0))), ((w0 7), .inl (k 0, 768, .inl (fun _ => 0))), ((w0 1), .inl (k 6, 8, .inr (.inr (.inr (.inr (fun _ => none)))))), ((w0 2), .inl (k 6, 20, .inr (.inr (.inr (.inr (fun _ => none)))))), ((w0 4), .inl (k 6, 6, .inr (.inr (.inr (.inr (fun _ => none)))))), (o, .inl (k 1, 1, .inr (.inl (fun _ => 0)))), (od, .inl (k 8, 1, .inr (.inr (.inr (.inl (fun _ => 0))))))]

set_option maxHeartbeats 4000000 in
set_option maxRecDepth 100000 in
theorem law_c0 {p : Program} {l : Launch} {e : Env} {s : State} {m : MethodId} {below : List Frame} {meth : Method} {c : Code} {b : Nat} {xs : Nat → Int32} (hst : l.stackTraces = false) (C0 : lw_At p s m meth c b 6 xs) {D : va_G} {k : Nat → ClassId} {e0 to mo o od : Nat} {u0 w0 : Nat → Nat} {A : Nat → Prop} (hA : ∀ q, s.heap.size ≤ q → A q) (hAs : ∀ q, A q → s.heap.size ≤ q) (hC : wCx D k s) (hNc : wNc s) (hHf : wHf e0 A s s.heap) {H : Heap} {locs : List Loc} {ls : Array Slot} (hP : va_P D vwCl (wL k to mo o od e0 u0 w0) H) (hD : va_D A (wL k to mo o od e0 u0 w0)) (hS : va_S A s.heap H locs) (hl : lv_has ls 9 [(0, .ref b), (1, .ref to), (2, .ref mo), (3, .ref o), (4, .ref od), (5, .int 0)]) : W p l e room_1 s m #[Value.ref b] below meth c H locs 100 20000 (lw_Z below #[Value.ref b] s) (F0 m 168 ls []) := by
  obtain ⟨hx, hb, hr, hml, hown, hts0, hX, hbl, hlocks, hgv⟩ := C0
  have hts : ∀ w ∈ wsL_law, w.before #[Value.ref b] s = true := fun w h => hts0 w (wsL_law_in w h)
  have hbA : ¬ A b := fun h9 => absurd (hAs b h9) (Nat.not_le.mpr hbl)
  refine lv_aload_n hx hb dL_law_168 rfl (lv_at hl 1 rfl) ?_
  refine lv_aload_n hx hb dL_law_169 rfl (lv_at hl 0 rfl) ?_
  refine lv_iload hx hb dL_law_170 (lv_at hl 5 rfl) ?_
  refine lv_iconst (v := 1) hx hb dL_law_172 (by decide) ?_
  refine lv_iadd hx hb dL_law_173 ?_
  refine w_top (y := 1) (by decide) ?_
  refine va_sld hx hb hX hbl hbA hS (vp_in_nI (n := 1) (N := 6) (by decide) (by decide)) dL_law_174 ?_
  refine w_top (y := xs 1) rfl ?_
  refine lv_aload_n hx hb dL_law_175 rfl (lv_at hl 0 rfl) ?_
  refine lv_iload hx hb dL_law_176 (lv_at hl 5 rfl) ?_
  refine lv_iconst (v := 2) hx hb dL_law_178 (by decide) ?_
  refine lv_iadd hx hb dL_law_179 ?_
  refine w_top (y := 2) (by decide) ?_
  refine va_sld hx hb hX hbl hbA hS (vp_in_nI (n := 2) (N := 6) (by decide) (by decide)) dL_law_180 ?_
  refine w_top (y := xs 2) rfl ?_
  refine lv_aload_n hx hb dL_law_181 rfl (lv_at hl 0 rfl) ?_
  refine lv_iload hx hb dL_law_182 (lv_at hl 5 rfl) ?_
  refine lv_iconst (v := 3) hx hb dL_law_184 (by decide) ?_
  refine lv_iadd hx hb dL_law_185 ?_
  refine w_top (y := 3) (by decide) ?_
  refine va_sld hx hb hX hbl hbA hS (vp_in_nI (n := 3) (N := 6) (by decide) (by decide)) dL_law_186 ?_
  refine w_top (y := xs 3) rfl ?_
  refine lv_aload_n hx hb dL_law_187 rfl (lv_at hl 0 rfl) ?_
  refine lv_iload hx hb dL_law_188 (lv_at hl 5 rfl) ?_
  refine lv_iconst (v := 4) hx hb dL_law_190 (by decide) ?_
  refine lv_iadd hx hb dL_law_191 ?_
  refine w_top (y := 4) (by decide) ?_
  refine va_sld hx hb hX hbl hbA hS (vp_in_nI (n := 4) (N := 6) (by decide) (by decide)) dL_law_192 ?_
  refine w_top (y := xs 4) rfl ?_
  refine lv_aload_n hx hb dL_law_193 rfl (lv_at hl 3 rfl) ?_
  have hPc := hP.sub (ws' := [(to, .inr (12, [.ref (u0 0), .ref (u0 1), .ref (u0 2), .ref (u0 3), .ref (u0 4), .ref (u0 5), .int 0, .int 0, .int 0])), ((u0 0), .inl (k 3, 4, .inr (.inr (.inr (.inr (fun i => some (u0 (6 + i)))))))), ((u0 1), .inr (2, [.int 0, .ref e0, .int 0])), ((u0 2), .inr (2, [.int 0, .ref e0, .int 0])), ((u0 3), .inr (2, [.int 0, .ref e0, .int 0])), ((u0 6), .inr (4, [.ref (u0 10), .ref (u0 14), .int 0, .int 0, .int 0])), ((u0 10), .inl (k 0, 768, .inl (fun _ => 0))), ((u0 14), .inr (8, [.ref (u0 18), .int 1, .ref (u0 22)])), ((u0 18), .inl (k 1, 768, .inr (.inl (fun _ => 0)))), ((u0 7), .inr (4, [.ref (u0 11), .ref (u0 15), .int 0, .int 0, .int 0])), ((u0 11), .inl (k 0, 768, .inl (fun _ => 0))), ((u0 15), .inr (8, [.ref (u0 19), .int 1, .ref (u0 23)])), ((u0 19), .inl (k 1, 768, .inr (.inl (fun _ => 0)))), ((u0 8), .inr (4, [.ref (u0 12), .ref (u0 16), .int 0, .int 0, .int 0])), ((u0 12), .inl (k 0, 768, .inl (fun _ => 0))), ((u0 16), .inr (8, [.ref (u0 20), .int 1, .ref (u0 24)])), ((u0 20), .inl (k 1, 768, .inr (.inl (fun _ => 0)))), ((u0 9), .inr (4, [.ref (u0 13), .ref (u0 17), .int 0, .int 0, .int 0])), ((u0 13), .inl (k 0, 768, .inl (fun _ => 0))), ((u0 17), .inr (8, [.ref (u0 21), .int 1, .ref (u0 25)])), ((u0 21), .inl (k 1, 768, .inr (.inl (fun _ => 0)))), (o, .inl (k 1, 1, .inr (.inl (fun _ => 0))))]) [0, 1, 2, 3, 4, 5, 6, 7, 8, 9, 10, 11, 12, 13, 14, 15, 16, 17, 18, 19, 20, 29] rfl
  have hDc := hD.sub (ws' := [(to, .inr (12, [.ref (u0 0), .ref (u0 1), .ref (u0 2), .ref (u0 3), .ref (u0 4), .ref (u0 5), .int 0, .int 0, .int 0])), ((u0 0), .inl (k 3, 4, .inr (.inr (.inr (.inr (fun i => some (u0 (6 + i)))))))), ((u0 1), .inr (2, [.int 0, .ref e0, .int 0])), ((u0 2), .inr (2, [.int 0, .ref e0, .int 0])), ((u0 3), .inr (2, [.int 0, .ref e0, .int 0])), ((u0 6), .inr (4, [.ref (u0 10), .ref (u0 14), .int 0, .int 0, .int 0])), ((u0 10), .inl (k 0, 768, .inl (fun _ => 0))), ((u0 14), .inr (8, [.ref (u0 18), .int 1, .ref (u0 22)])), ((u0 18), .inl (k 1, 768, .inr (.inl (fun _ => 0)))), ((u0 7), .inr (4, [.ref (u0 11), .ref (u0 15), .int 0, .int 0, .int 0])), ((u0 11), .inl (k 0, 768, .inl (fun _ => 0))), ((u0 15), .inr (8, [.ref (u0 19), .int 1, .ref (u0 23)])), ((u0 19), .inl (k 1, 768, .inr (.inl (fun _ => 0)))), ((u0 8), .inr (4, [.ref (u0 12), .ref (u0 16), .int 0, .int 0, .int 0])), ((u0 12), .inl (k 0, 768, .inl (fun _ => 0))), ((u0 16), .inr (8, [.ref (u0 20), .int 1, .ref (u0 24)])), ((u0 20), .inl (k 1, 768, .inr (.inl (fun _ => 0)))), ((u0 9), .inr (4, [.ref (u0 13), .ref (u0 17), .int 0, .int 0, .int 0])), ((u0 13), .inl (k 0, 768, .inl (fun _ => 0))), ((u0 17), .inr (8, [.ref (u0 21), .int 1, .ref (u0 25)])), ((u0 21), .inl (k 1, 768, .inr (.inl (fun _ => 0)))), (o, .inl (k 1, 1, .inr (.inl (fun _ => 0))))]) [0, 1, 2, 3, 4, 5, 6, 7, 8, 9, 10, 11, 12, 13, 14, 15, 16, 17, 18, 19, 20, 29] (by decide) rfl
  have hFc := va_free (wc := [(to, .inr (12, [.ref (u0 0), .ref (u0 1), .ref (u0 2), .ref (u0 3), .ref (u0 4), .ref (u0 5), .int 0, .int 0, .int 0])), ((u0 0), .inl (k 3, 4, .inr (.inr (.inr (.inr (fun i => some (u0 (6 + i)))))))), ((u0 1), .inr (2, [.int 0, .ref e0, .int 0])), ((u0 2), .inr (2, [.int 0, .ref e0, .int 0])), ((u0 3), .inr (2, [.int 0, .ref e0, .int 0])), ((u0 6), .inr (4, [.ref (u0 10), .ref (u0 14), .int 0, .int 0, .int 0])), ((u0 10), .inl (k 0, 768, .inl (fun _ => 0))), ((u0 14), .inr (8, [.ref (u0 18), .int 1, .ref (u0 22)])), ((u0 18), .inl (k 1, 768, .inr (.inl (fun _ => 0)))), ((u0 7), .inr (4, [.ref (u0 11), .ref (u0 15), .int 0, .int 0, .int 0])), ((u0 11), .inl (k 0, 768, .inl (fun _ => 0))), ((u0 15), .inr (8, [.ref (u0 19), .int 1, .ref (u0 23)])), ((u0 19), .inl (k 1, 768, .inr (.inl (fun _ => 0)))), ((u0 8), .inr (4, [.ref (u0 12), .ref (u0 16), .int 0, .int 0, .int 0])), ((u0 12), .inl (k 0, 768, .inl (fun _ => 0))), ((u0 16), .inr (8, [.ref (u0 20), .int 1, .ref (u0 24)])), ((u0 20), .inl (k 1, 768, .inr (.inl (fun _ => 0)))), ((u0 9), .inr (4, [.ref (u0 13), .ref (u0 17), .int 0, .int 0, .int 0])), ((u0 13), .inl (k 0, 768, .inl (fun _ => 0))), ((u0 17), .inr (8, [.ref (u0 21), .int 1, .ref (u0 25)])), ((u0 21), .inl (k 1, 768, .inr (.inl (fun _ => 0)))), (o, .inl (k 1, 1, .inr (.inl (fun _ => 0))))]) hD hS hA [0, 1, 2, 3, 4, 5, 6, 7, 8, 9, 10, 11, 12, 13, 14, 15, 16, 17, 18, 19, 20, 29] rfl
  refine va_calli (vx_runSW (As := [.ref to, .int (xs 1), .int (xs 2), .int (xs 3), .int (xs 4), .ref o]) (rest := []) ⟨hx, hb, hml, hown, hts⟩ (k_L_add l hst D k e0 H.size to o u0 (fun _ => 0) (xs 1) (xs 2) (xs 3) (xs 4)) (vx_cwSW 6 hts gL_law_L_add rfl rfl rfl (by decide +kernel) ⟨Nat.le_of_ble_eq_true rfl, Nat.le_of_ble_eq_true rfl⟩) ⟨lPc_fb, lPc_go hC hNc hHf hS hPc hDc hFc⟩ rfl rfl hl.1 rfl (lv_room (Nat.le_of_ble_eq_true rfl)) dL_law_194 ⟨Nat.le_of_ble_eq_true rfl, Nat.le_of_ble_eq_true rfl⟩) hS (fun q9 _ h9 => hFc q9 h9) hFc (fun rL uL t H locs ht hvm hwL hB hz1 hk1 hS => ?_)
  obtain ⟨hP1, hD1⟩ := hB
  rw [ht] at hP1
  obtain ⟨hP, hD⟩ := va_join (wr := [(mo, .inr (13, [.int 0, .ref (w0 0), .int 0, .ref (w0 1), .int 0, .int 0, .ref (w0 2), .int 0, .ref (w0 3), .ref (w0 4), .int 0])), ((w0 0), .inl (k 5, 3, .inr (.inr (.inr (.inr (fun i => some (w0 (5 + i)))))))), ((w0 5), .inl (k 0, 768, .inl (fun _ => 0))), ((w0 6), .inl (k 0, 768, .inl (fun _ => 0))), ((w0 7), .inl (k 0, 768, .inl (fun _ => 0))), ((w0 1), .inl (k 6, 8, .inr (.inr (.inr (.inr (fun _ => none)))))), ((w0 2), .inl (k 6, 20, .inr (.inr (.inr (.inr (fun _ => none)))))), ((w0 4), .inl (k 6, 6, .inr (.inr (.inr (.inr (fun _ => none)))))), (od, .inl (k 8, 1, .inr (.inr (.inr (.inl (fun _ => 0))))))]) (w1 := [(o, .inl (k 1, 1, .inr (.inl uL)))]) hP hD [0, 1, 2, 3, 4, 5, 6, 7, 8, 9, 10, 11, 12, 13, 14, 15, 16, 17, 18, 19, 20, 29] [21, 22, 23, 24, 25, 26, 27, 28, 30] rfl rfl (by decide) (by decide) hk1 hFc hP1 hD1
  have hP : va_P D vwCl [(mo, .inr (13, [.int 0, .ref (w0 0), .int 0, .ref (w0 1), .int 0, .int 0, .ref (w0 2), .int 0, .ref (w0 3), .ref (w0 4), .int 0])), ((w0 0), .inl (k 5, 3, .inr (.inr (.inr (.inr (fun i => some (w0 (5 + i)))))))), ((w0 5), .inl (k 0, 768, .inl (fun _ => 0))), ((w0 6), .inl (k 0, 768, .inl (fun _ => 0))), ((w0 7), .inl (k 0, 768, .inl (fun _ => 0))), ((w0 1), .inl (k 6, 8, .inr (.inr (.inr (.inr (fun _ => none)))))), ((w0 2), .inl (k 6, 20, .inr (.inr (.inr (.inr (fun _ => none)))))), ((w0 4), .inl (k 6, 6, .inr (.inr (.inr (.inr (fun _ => none)))))), (od, .inl (k 8, 1, .inr (.inr (.inr (.inl (fun _ => 0)))))), (o, .inl (k 1, 1, .inr (.inl uL)))] H := hP
  have hD : va_D A [(mo, .inr (13, [.int 0, .ref (w0 0), .int 0, .ref (w0 1), .int 0, .int 0, .ref (w0 2), .int 0, .ref (w0 3), .ref (w0 4), .int 0])), ((w0 0), .inl (k 5, 3, .inr (.inr (.inr (.inr (fun i => some (w0 (5 + i)))))))), ((w0 5), .inl (k 0, 768, .inl (fun _ => 0))), ((w0 6), .inl (k 0, 768, .inl (fun _ => 0))), ((w0 7), .inl (k 0, 768, .inl (fun _ => 0))), ((w0 1), .inl (k 6, 8, .inr (.inr (.inr (.inr (fun _ => none)))))), ((w0 2), .inl (k 6, 20, .inr (.inr (.inr (.inr (fun _ => none)))))), ((w0 4), .inl (k 6, 6, .inr (.inr (.inr (.inr (fun _ => none)))))), (od, .inl (k 8, 1, .inr (.inr (.inr (.inl (fun _ => 0)))))), (o, .inl (k 1, 1, .inr (.inl uL)))] := hD
  rcases hwL with ⟨hok, rfl, hfL⟩ | ⟨hok, rfl⟩
  · refine lv_istore (lv' := [(6, .int 0), (0, .ref b), (1, .ref to), (2, .ref mo), (3, .ref o), (4, .ref od), (5, .int 0)]) hx hb dL_law_197 hl (by decide) rfl (fun ls hl => ?_)
    refine lv_aload_n hx hb dL_law_199 rfl (lv_at hl 3 rfl) ?_
    refine lv_aload_n hx hb dL_law_200 rfl (lv_at hl 1 rfl) ?_
    refine lv_iload hx hb dL_law_201 (lv_at hl 6 rfl) ?_
    refine lv_iconst (v := 1) hx hb dL_law_203 (by decide) ?_
    refine lv_iadd hx hb dL_law_204 ?_
    refine w_top (y := 1) (by decide) ?_
    refine va_sld hx hb hX hbl hbA hS (vp_in_nI (n := 1) (N := 6) (by decide) (by decide)) dL_law_205 ?_
    refine w_top (y := xs 1) rfl ?_
    refine lv_aload_n hx hb dL_law_206 rfl (lv_at hl 1 rfl) ?_
    refine lv_iload hx hb dL_law_207 (lv_at hl 6 rfl) ?_
    refine lv_iconst (v := 2) hx hb dL_law_209 (by decide) ?_
    refine lv_iadd hx hb dL_law_210 ?_
    refine w_top (y := 2) (by decide) ?_
    refine va_sld hx hb hX hbl hbA hS (vp_in_nI (n := 2) (N := 6) (by decide) (by decide)) dL_law_211 ?_
    refine w_top (y := xs 2) rfl ?_
    refine lv_aload_n hx hb dL_law_212 rfl (lv_at hl 1 rfl) ?_
    refine lv_iload hx hb dL_law_213 (lv_at hl 6 rfl) ?_
    refine lv_iconst (v := 3) hx hb dL_law_215 (by decide) ?_
    refine lv_iadd hx hb dL_law_216 ?_
    refine w_top (y := 3) (by decide) ?_
    refine va_sld hx hb hX hbl hbA hS (vp_in_nI (n := 3) (N := 6) (by decide) (by decide)) dL_law_217 ?_
    refine w_top (y := xs 3) rfl ?_
    refine lv_aload_n hx hb dL_law_218 rfl (lv_at hl 1 rfl) ?_
    refine lv_iload hx hb dL_law_219 (lv_at hl 6 rfl) ?_
    refine lv_iconst (v := 4) hx hb dL_law_221 (by decide) ?_
    refine lv_iadd hx hb dL_law_222 ?_
    refine w_top (y := 4) (by decide) ?_
    refine va_sld hx hb hX hbl hbA hS (vp_in_nI (n := 4) (N := 6) (by decide) (by decide)) dL_law_223 ?_
    refine w_top (y := xs 4) rfl ?_
    have hPc := hP.sub (ws' := [(mo, .inr (13, [.int 0, .ref (w0 0), .int 0, .ref (w0 1), .int 0, .int 0, .ref (w0 2), .int 0, .ref (w0 3), .ref (w0 4), .int 0])), ((w0 0), .inl (k 5, 3, .inr (.inr (.inr (.inr (fun i => some (w0 (5 + i)))))))), ((w0 5), .inl (k 0, 768, .inl (fun _ => 0))), ((w0 6), .inl (k 0, 768, .inl (fun _ => 0))), ((w0 7), .inl (k 0, 768, .inl (fun _ => 0))), ((w0 1), .inl (k 6, 8, .inr (.inr (.inr (.inr (fun _ => none)))))), ((w0 2), .inl (k 6, 20, .inr (.inr (.inr (.inr (fun _ => none)))))), ((w0 4), .inl (k 6, 6, .inr (.inr (.inr (.inr (fun _ => none))))))]) [0, 1, 2, 3, 4, 5, 6, 7] rfl
    have hDc := hD.sub (ws' := [(mo, .inr (13, [.int 0, .ref (w0 0), .int 0, .ref (w0 1), .int 0, .int 0, .ref (w0 2), .int 0, .ref (w0 3), .ref (w0 4), .int 0])), ((w0 0), .inl (k 5, 3, .inr (.inr (.inr (.inr (fun i => some (w0 (5 + i)))))))), ((w0 5), .inl (k 0, 768, .inl (fun _ => 0))), ((w0 6), .inl (k 0, 768, .inl (fun _ => 0))), ((w0 7), .inl (k 0, 768, .inl (fun _ => 0))), ((w0 1), .inl (k 6, 8, .inr (.inr (.inr (.inr (fun _ => none)))))), ((w0 2), .inl (k 6, 20, .inr (.inr (.inr (.inr (fun _ => none)))))), ((w0 4), .inl (k 6, 6, .inr (.inr (.inr (.inr (fun _ => none))))))]) [0, 1, 2, 3, 4, 5, 6, 7] (by decide) rfl
    have hFc := va_free (wc := [(mo, .inr (13, [.int 0, .ref (w0 0), .int 0, .ref (w0 1), .int 0, .int 0, .ref (w0 2), .int 0, .ref (w0 3), .ref (w0 4), .int 0])), ((w0 0), .inl (k 5, 3, .inr (.inr (.inr (.inr (fun i => some (w0 (5 + i)))))))), ((w0 5), .inl (k 0, 768, .inl (fun _ => 0))), ((w0 6), .inl (k 0, 768, .inl (fun _ => 0))), ((w0 7), .inl (k 0, 768, .inl (fun _ => 0))), ((w0 1), .inl (k 6, 8, .inr (.inr (.inr (.inr (fun _ => none)))))), ((w0 2), .inl (k 6, 20, .inr (.inr (.inr (.inr (fun _ => none)))))), ((w0 4), .inl (k 6, 6, .inr (.inr (.inr (.inr (fun _ => none))))))]) hD hS hA [0, 1, 2, 3, 4, 5, 6, 7] rfl
    refine va_calli (va_runV (As := [.int (xs 1), .int (xs 2), .int (xs 3), .int (xs 4)]) (rest := []) ⟨hx, hb, hml, hown, hts⟩ (k_X12_add l D k e0 H.size mo w0 (xs 1) (xs 2) (xs 3) (xs 4)) (cwV 4 hts gL_law_X12_add rfl rfl rfl (by decide +kernel) ⟨Nat.le_of_ble_eq_true rfl, Nat.le_of_ble_eq_true rfl⟩) ⟨mPc_fb, va_recv hC.1 hPc (ci := 13) (q0 := 0) rfl rfl, mPc_go hC hHf hS hPc hDc hFc⟩ rfl rfl hl.1 rfl (lv_room (Nat.le_of_ble_eq_true rfl)) dL_law_224 ⟨Nat.le_of_ble_eq_true rfl, Nat.le_of_ble_eq_true rfl⟩) hS (fun q9 _ h9 => hFc q9 h9) hFc (fun r2 u1 t H locs ht hvm hw_r2 hB hz1 hk1 hS => ?_)
    obtain ⟨hP1, hD1⟩ := hB
    rw [ht] at hP1
    obtain ⟨hP, hD⟩ := va_join (wr := [(od, .inl (k 8, 1, .inr (.inr (.inr (.inl (fun _ => 0)))))), (o, .inl (k 1, 1, .inr (.inl uL)))]) (w1 := [(mo, .inr (13, u1))]) hP hD [0, 1, 2, 3, 4, 5, 6, 7] [8, 9] rfl rfl (by decide) (by decide) hk1 hFc hP1 hD1
    have hP : va_P D vwCl [(od, .inl (k 8, 1, .inr (.inr (.inr (.inl (fun _ => 0)))))), (o, .inl (k 1, 1, .inr (.inl uL))), (mo, .inr (13, u1))] H := hP
    have hD : va_D A [(od, .inl (k 8, 1, .inr (.inr (.inr (.inl (fun _ => 0)))))), (o, .inl (k 1, 1, .inr (.inl uL))), (mo, .inr (13, u1))] := hD
    obtain ⟨hth, rfl⟩ : u1[0]? = some (.int 0) ∧ r2 = 1 := by rcases hw_r2 with ⟨_, z1, z2⟩ | ⟨z1, _⟩; exact ⟨z1, z2⟩; exact absurd hok z1
    refine lv_istore (lv' := [(7, .int 1), (6, .int 0), (0, .ref b), (1, .ref to), (2, .ref mo), (3, .ref o), (4, .ref od), (5, .int 0)]) hx hb dL_law_227 hl (by decide) rfl (fun ls hl => ?_)
    refine lv_aload_n hx hb dL_law_229 rfl (lv_at hl 4 rfl) ?_
    refine pz_i (va_runV (As := []) (rest := []) ⟨hx, hb, hml, hown, hts⟩ (k_X12_thrown l D k H mo u1 0 (hP.sub [2] rfl) hth) (cwV 0 hts gL_law_X12_thrown rfl rfl rfl (by decide +kernel) ⟨Nat.le_of_ble_eq_true rfl, Nat.le_of_ble_eq_true rfl⟩) ⟨pPc_fb, va_recv hC.1 hP (ci := 13) (q0 := 2) rfl rfl, pPc_go hC⟩ rfl rfl hl.1 rfl (lv_room (Nat.le_of_ble_eq_true rfl)) dL_law_230 ⟨Nat.le_of_ble_eq_true rfl, Nat.le_of_ble_eq_true rfl⟩) hS (fun r4 locs hw_r4 hS => ?_)
    subst hw_r4
    refine lv_iload hx hb dL_law_233 (lv_at hl 1 rfl) ?_
    refine lv_icmp_eq (tgt := 240) hx hb dL_law_235 (by decide) (fun c_235 => ?_) (fun c_235 => absurd (by decide) c_235)
    refine lv_iload hx hb dL_law_240 (lv_at hl 1 rfl) ?_
    refine lv_if_ne (tgt := 264) hx hb dL_law_242 (by decide) (fun c_242 => absurd c_242 (by decide)) (fun c_242 => ?_)
    refine lv_aload_n hx hb dL_law_245 rfl (lv_at hl 5 rfl) ?_
    refine lv_iconst (v := 0) hx hb dL_law_246 (by decide) ?_
    refine va_lald hx hb hC.1 hP 1 1 rfl rfl (vp_in_nI (n := 0) (N := 1) (by decide) (by decide)) dL_law_247 ?_
    refine w_topl (y := 1) hfL ?_
    refine lv_iload hx hb dL_law_248 (lv_at hl 0 rfl) ?_
    refine lv_if_eq (tgt := 257) hx hb dL_law_250 (by decide) (fun c_250 => absurd c_250 (by decide)) (fun c_250 => ?_)
    refine lv_lconst (v := 1) hx hb dL_law_253 (by decide) ?_
    refine lv_goto (tgt := 258) hx hb dL_law_254 (by decide) ?_
    refine W.lcmp hx hb dL_law_258 ?_
    refine w_top (y := 0) (by decide) ?_
    refine lv_if_eq (tgt := 264) hx hb dL_law_259 (by decide) (fun c_259 => ?_) (fun c_259 => absurd (by decide) c_259)
    refine lv_goto (tgt := 2046) hx hb dL_law_264 (by decide) ?_
    refine W.widen (k := 100000) (n := 1000000) (Nat.le_of_ble_eq_true rfl) (Nat.le_of_ble_eq_true rfl) ?_
    exact law_end ⟨hx, hb, hr, hml, hown, hts0, hX, hbl, hlocks, hgv⟩ hAs hS (lv_sub hl [2, 7] rfl)
  · refine lv_istore (lv' := [(6, .int 1), (0, .ref b), (1, .ref to), (2, .ref mo), (3, .ref o), (4, .ref od), (5, .int 0)]) hx hb dL_law_197 hl (by decide) rfl (fun ls hl => ?_)
    refine lv_aload_n hx hb dL_law_199 rfl (lv_at hl 3 rfl) ?_
    refine lv_aload_n hx hb dL_law_200 rfl (lv_at hl 1 rfl) ?_
    refine lv_iload hx hb dL_law_201 (lv_at hl 6 rfl) ?_
    refine lv_iconst (v := 1) hx hb dL_law_203 (by decide) ?_
    refine lv_iadd hx hb dL_law_204 ?_
    refine w_top (y := 1) (by decide) ?_
    refine va_sld hx hb hX hbl hbA hS (vp_in_nI (n := 1) (N := 6) (by decide) (by decide)) dL_law_205 ?_
    refine w_top (y := xs 1) rfl ?_
    refine lv_aload_n hx hb dL_law_206 rfl (lv_at hl 1 rfl) ?_
    refine lv_iload hx hb dL_law_207 (lv_at hl 6 rfl) ?_
    refine lv_iconst (v := 2) hx hb dL_law_209 (by decide) ?_
    refine lv_iadd hx hb dL_law_210 ?_
    refine w_top (y := 2) (by decide) ?_
    refine va_sld hx hb hX hbl hbA hS (vp_in_nI (n := 2) (N := 6) (by decide) (by decide)) dL_law_211 ?_
    refine w_top (y := xs 2) rfl ?_
    refine lv_aload_n hx hb dL_law_212 rfl (lv_at hl 1 rfl) ?_
    refine lv_iload hx hb dL_law_213 (lv_at hl 6 rfl) ?_
    refine lv_iconst (v := 3) hx hb dL_law_215 (by decide) ?_
    refine lv_iadd hx hb dL_law_216 ?_
    refine w_top (y := 3) (by decide) ?_
    refine va_sld hx hb hX hbl hbA hS (vp_in_nI (n := 3) (N := 6) (by decide) (by decide)) dL_law_217 ?_
    refine w_top (y := xs 3) rfl ?_
    refine lv_aload_n hx hb dL_law_218 rfl (lv_at hl 1 rfl) ?_
    refine lv_iload hx hb dL_law_219 (lv_at hl 6 rfl) ?_
    refine lv_iconst (v := 4) hx hb dL_law_221 (by decide) ?_
    refine lv_iadd hx hb dL_law_222 ?_
    refine w_top (y := 4) (by decide) ?_
    refine va_sld hx hb hX hbl hbA hS (vp_in_nI (n := 4) (N := 6) (by decide) (by decide)) dL_law_223 ?_
    refine w_top (y := xs 4) rfl ?_
    have hPc := hP.sub (ws' := [(mo, .inr (13, [.int 0, .ref (w0 0), .int 0, .ref (w0 1), .int 0, .int 0, .ref (w0 2), .int 0, .ref (w0 3), .ref (w0 4), .int 0])), ((w0 0), .inl (k 5, 3, .inr (.inr (.inr (.inr (fun i => some (w0 (5 + i)))))))), ((w0 5), .inl (k 0, 768, .inl (fun _ => 0))), ((w0 6), .inl (k 0, 768, .inl (fun _ => 0))), ((w0 7), .inl (k 0, 768, .inl (fun _ => 0))), ((w0 1), .inl (k 6, 8, .inr (.inr (.inr (.inr (fun _ => none)))))), ((w0 2), .inl (k 6, 20, .inr (.inr (.inr (.inr (fun _ => none)))))), ((w0 4), .inl (k 6, 6, .inr (.inr (.inr (.inr (fun _ => none))))))]) [0, 1, 2, 3, 4, 5, 6, 7] rfl
    have hDc := hD.sub (ws' := [(mo, .inr (13, [.int 0, .ref (w0 0), .int 0, .ref (w0 1), .int 0, .int 0, .ref (w0 2), .int 0, .ref (w0 3), .ref (w0 4), .int 0])), ((w0 0), .inl (k 5, 3, .inr (.inr (.inr (.inr (fun i => some (w0 (5 + i)))))))), ((w0 5), .inl (k 0, 768, .inl (fun _ => 0))), ((w0 6), .inl (k 0, 768, .inl (fun _ => 0))), ((w0 7), .inl (k 0, 768, .inl (fun _ => 0))), ((w0 1), .inl (k 6, 8, .inr (.inr (.inr (.inr (fun _ => none)))))), ((w0 2), .inl (k 6, 20, .inr (.inr (.inr (.inr (fun _ => none)))))), ((w0 4), .inl (k 6, 6, .inr (.inr (.inr (.inr (fun _ => none))))))]) [0, 1, 2, 3, 4, 5, 6, 7] (by decide) rfl
    have hFc := va_free (wc := [(mo, .inr (13, [.int 0, .ref (w0 0), .int 0, .ref (w0 1), .int 0, .int 0, .ref (w0 2), .int 0, .ref (w0 3), .ref (w0 4), .int 0])), ((w0 0), .inl (k 5, 3, .inr (.inr (.inr (.inr (fun i => some (w0 (5 + i)))))))), ((w0 5), .inl (k 0, 768, .inl (fun _ => 0))), ((w0 6), .inl (k 0, 768, .inl (fun _ => 0))), ((w0 7), .inl (k 0, 768, .inl (fun _ => 0))), ((w0 1), .inl (k 6, 8, .inr (.inr (.inr (.inr (fun _ => none)))))), ((w0 2), .inl (k 6, 20, .inr (.inr (.inr (.inr (fun _ => none)))))), ((w0 4), .inl (k 6, 6, .inr (.inr (.inr (.inr (fun _ => none))))))]) hD hS hA [0, 1, 2, 3, 4, 5, 6, 7] rfl
    refine va_calli (va_runV (As := [.int (xs 1), .int (xs 2), .int (xs 3), .int (xs 4)]) (rest := []) ⟨hx, hb, hml, hown, hts⟩ (k_X12_add l D k e0 H.size mo w0 (xs 1) (xs 2) (xs 3) (xs 4)) (cwV 4 hts gL_law_X12_add rfl rfl rfl (by decide +kernel) ⟨Nat.le_of_ble_eq_true rfl, Nat.le_of_ble_eq_true rfl⟩) ⟨mPc_fb, va_recv hC.1 hPc (ci := 13) (q0 := 0) rfl rfl, mPc_go hC hHf hS hPc hDc hFc⟩ rfl rfl hl.1 rfl (lv_room (Nat.le_of_ble_eq_true rfl)) dL_law_224 ⟨Nat.le_of_ble_eq_true rfl, Nat.le_of_ble_eq_true rfl⟩) hS (fun q9 _ h9 => hFc q9 h9) hFc (fun r6 u5 t H locs ht hvm hw_r6 hB hz1 hk1 hS => ?_)
    obtain ⟨hP1, hD1⟩ := hB
    rw [ht] at hP1
    obtain ⟨hP, hD⟩ := va_join (wr := [(od, .inl (k 8, 1, .inr (.inr (.inr (.inl (fun _ => 0)))))), (o, .inl (k 1, 1, .inr (.inl uL)))]) (w1 := [(mo, .inr (13, u5))]) hP hD [0, 1, 2, 3, 4, 5, 6, 7] [8, 9] rfl rfl (by decide) (by decide) hk1 hFc hP1 hD1
    have hP : va_P D vwCl [(od, .inl (k 8, 1, .inr (.inr (.inr (.inl (fun _ => 0)))))), (o, .inl (k 1, 1, .inr (.inl uL))), (mo, .inr (13, u5))] H := hP
    have hD : va_D A [(od, .inl (k 8, 1, .inr (.inr (.inr (.inl (fun _ => 0)))))), (o, .inl (k 1, 1, .inr (.inl uL))), (mo, .inr (13, u5))] := hD
    have hth : u5[0]? = some (.int 1) := by rcases hw_r6 with ⟨z1, _⟩ | ⟨_, z1⟩; exact absurd z1 hok; exact z1
    refine lv_istore (lv' := [(7, .int r6), (6, .int 1), (0, .ref b), (1, .ref to), (2, .ref mo), (3, .ref o), (4, .ref od), (5, .int 0)]) hx hb dL_law_227 hl (by decide) rfl (fun ls hl => ?_)
    refine lv_aload_n hx hb dL_law_229 rfl (lv_at hl 4 rfl) ?_
    refine pz_i (va_runV (As := []) (rest := []) ⟨hx, hb, hml, hown, hts⟩ (k_X12_thrown l D k H mo u5 1 (hP.sub [2] rfl) hth) (cwV 0 hts gL_law_X12_thrown rfl rfl rfl (by decide +kernel) ⟨Nat.le_of_ble_eq_true rfl, Nat.le_of_ble_eq_true rfl⟩) ⟨pPc_fb, va_recv hC.1 hP (ci := 13) (q0 := 2) rfl rfl, pPc_go hC⟩ rfl rfl hl.1 rfl (lv_room (Nat.le_of_ble_eq_true rfl)) dL_law_230 ⟨Nat.le_of_ble_eq_true rfl, Nat.le_of_ble_eq_true rfl⟩) hS (fun r8 locs hw_r8 hS => ?_)
    subst hw_r8
    refine lv_iload hx hb dL_law_233 (lv_at hl 1 rfl) ?_
    refine lv_icmp_eq (tgt := 240) hx hb dL_law_235 (by decide) (fun c_235 => ?_) (fun c_235 => absurd (by decide) c_235)
    refine lv_iload hx hb dL_law_240 (lv_at hl 1 rfl) ?_
    refine lv_if_ne (tgt := 264) hx hb dL_law_242 (by decide) (fun c_242 => ?_) (fun c_242 => absurd c_242 (by decide))
    refine lv_goto (tgt := 2046) hx hb dL_law_264 (by decide) ?_
    refine W.widen (k := 100000) (n := 1000000) (Nat.le_of_ble_eq_true rfl) (Nat.le_of_ble_eq_true rfl) ?_
    exact law_end ⟨hx, hb, hr, hml, hown, hts0, hX, hbl, hlocks, hgv⟩ hAs hS (lv_sub hl [2, 7] rfl)

set_option maxHeartbeats 4000000 in
set_option maxRecDepth 100000 in
theorem law_c1 {p : Program} {l : Launch} {e : Env} {s : State} {m : MethodId} {below : List Frame} {meth : Method} {c : Code} {b : Nat} {xs : Nat → Int32} (hst : l.stackTraces = false) (C0 : lw_At p s m meth c b 6 xs) {D : va_G} {k : Nat → ClassId} {e0 to mo o od : Nat} {u0 w0 : Nat → Nat} {A : Nat → Prop} (hA : ∀ q, s.heap.size ≤ q → A q) (hAs : ∀ q, A q → s.heap.size ≤ q) (hC : wCx D k s) (hNc : wNc s) (hHf : wHf e0 A s s.heap) {H : Heap} {locs : List Loc} {ls : Array Slot} (hP : va_P D vwCl (wL k to mo o od e0 u0 w0) H) (hD : va_D A (wL k to mo o od e0 u0 w0)) (hS : va_S A s.heap H locs) (hl : lv_has ls 9 [(0, .ref b), (1, .ref to), (2, .ref mo), (3, .ref o), (4, .ref od), (5, .int 0)]) : W p l e room_1 s m #[Value.ref b] below meth c H locs 100 20000 (lw_Z below #[Value.ref b] s) (F0 m 267 ls []) := by
  obtain ⟨hx, hb, hr, hml, hown, hts0, hX, hbl, hlocks, hgv⟩ := C0
  have hts : ∀ w ∈ wsL_law, w.before #[Value.ref b] s = true := fun w h => hts0 w (wsL_law_in w h)
  have hbA : ¬ A b := fun h9 => absurd (hAs b h9) (Nat.not_le.mpr hbl)
  refine lv_aload_n hx hb dL_law_267 rfl (lv_at hl 1 rfl) ?_
  refine lv_aload_n hx hb dL_law_268 rfl (lv_at hl 0 rfl) ?_
  refine lv_iload hx hb dL_law_269 (lv_at hl 5 rfl) ?_
  refine lv_iconst (v := 1) hx hb dL_law_271 (by decide) ?_
  refine lv_iadd hx hb dL_law_272 ?_
  refine w_top (y := 1) (by decide) ?_
  refine va_sld hx hb hX hbl hbA hS (vp_in_nI (n := 1) (N := 6) (by decide) (by decide)) dL_law_273 ?_
  refine w_top (y := xs 1) rfl ?_
  refine lv_aload_n hx hb dL_law_274 rfl (lv_at hl 0 rfl) ?_
  refine lv_iload hx hb dL_law_275 (lv_at hl 5 rfl) ?_
  refine lv_iconst (v := 2) hx hb dL_law_277 (by decide) ?_
  refine lv_iadd hx hb dL_law_278 ?_
  refine w_top (y := 2) (by decide) ?_
  refine va_sld hx hb hX hbl hbA hS (vp_in_nI (n := 2) (N := 6) (by decide) (by decide)) dL_law_279 ?_
  refine w_top (y := xs 2) rfl ?_
  refine lv_aload_n hx hb dL_law_280 rfl (lv_at hl 0 rfl) ?_
  refine lv_iload hx hb dL_law_281 (lv_at hl 5 rfl) ?_
  refine lv_iconst (v := 3) hx hb dL_law_283 (by decide) ?_
  refine lv_iadd hx hb dL_law_284 ?_
  refine w_top (y := 3) (by decide) ?_
  refine va_sld hx hb hX hbl hbA hS (vp_in_nI (n := 3) (N := 6) (by decide) (by decide)) dL_law_285 ?_
  refine w_top (y := xs 3) rfl ?_
  refine lv_aload_n hx hb dL_law_286 rfl (lv_at hl 0 rfl) ?_
  refine lv_iload hx hb dL_law_287 (lv_at hl 5 rfl) ?_
  refine lv_iconst (v := 4) hx hb dL_law_289 (by decide) ?_
  refine lv_iadd hx hb dL_law_290 ?_
  refine w_top (y := 4) (by decide) ?_
  refine va_sld hx hb hX hbl hbA hS (vp_in_nI (n := 4) (N := 6) (by decide) (by decide)) dL_law_291 ?_
  refine w_top (y := xs 4) rfl ?_
  refine lv_aload_n hx hb dL_law_292 rfl (lv_at hl 3 rfl) ?_
  have hPc := hP.sub (ws' := [(to, .inr (12, [.ref (u0 0), .ref (u0 1), .ref (u0 2), .ref (u0 3), .ref (u0 4), .ref (u0 5), .int 0, .int 0, .int 0])), ((u0 0), .inl (k 3, 4, .inr (.inr (.inr (.inr (fun i => some (u0 (6 + i)))))))), ((u0 1), .inr (2, [.int 0, .ref e0, .int 0])), ((u0 2), .inr (2, [.int 0, .ref e0, .int 0])), ((u0 3), .inr (2, [.int 0, .ref e0, .int 0])), ((u0 6), .inr (4, [.ref (u0 10), .ref (u0 14), .int 0, .int 0, .int 0])), ((u0 10), .inl (k 0, 768, .inl (fun _ => 0))), ((u0 14), .inr (8, [.ref (u0 18), .int 1, .ref (u0 22)])), ((u0 18), .inl (k 1, 768, .inr (.inl (fun _ => 0)))), ((u0 7), .inr (4, [.ref (u0 11), .ref (u0 15), .int 0, .int 0, .int 0])), ((u0 11), .inl (k 0, 768, .inl (fun _ => 0))), ((u0 15), .inr (8, [.ref (u0 19), .int 1, .ref (u0 23)])), ((u0 19), .inl (k 1, 768, .inr (.inl (fun _ => 0)))), ((u0 8), .inr (4, [.ref (u0 12), .ref (u0 16), .int 0, .int 0, .int 0])), ((u0 12), .inl (k 0, 768, .inl (fun _ => 0))), ((u0 16), .inr (8, [.ref (u0 20), .int 1, .ref (u0 24)])), ((u0 20), .inl (k 1, 768, .inr (.inl (fun _ => 0)))), ((u0 9), .inr (4, [.ref (u0 13), .ref (u0 17), .int 0, .int 0, .int 0])), ((u0 13), .inl (k 0, 768, .inl (fun _ => 0))), ((u0 17), .inr (8, [.ref (u0 21), .int 1, .ref (u0 25)])), ((u0 21), .inl (k 1, 768, .inr (.inl (fun _ => 0)))), (o, .inl (k 1, 1, .inr (.inl (fun _ => 0))))]) [0, 1, 2, 3, 4, 5, 6, 7, 8, 9, 10, 11, 12, 13, 14, 15, 16, 17, 18, 19, 20, 29] rfl
  have hDc := hD.sub (ws' := [(to, .inr (12, [.ref (u0 0), .ref (u0 1), .ref (u0 2), .ref (u0 3), .ref (u0 4), .ref (u0 5), .int 0, .int 0, .int 0])), ((u0 0), .inl (k 3, 4, .inr (.inr (.inr (.inr (fun i => some (u0 (6 + i)))))))), ((u0 1), .inr (2, [.int 0, .ref e0, .int 0])), ((u0 2), .inr (2, [.int 0, .ref e0, .int 0])), ((u0 3), .inr (2, [.int 0, .ref e0, .int 0])), ((u0 6), .inr (4, [.ref (u0 10), .ref (u0 14), .int 0, .int 0, .int 0])), ((u0 10), .inl (k 0, 768, .inl (fun _ => 0))), ((u0 14), .inr (8, [.ref (u0 18), .int 1, .ref (u0 22)])), ((u0 18), .inl (k 1, 768, .inr (.inl (fun _ => 0)))), ((u0 7), .inr (4, [.ref (u0 11), .ref (u0 15), .int 0, .int 0, .int 0])), ((u0 11), .inl (k 0, 768, .inl (fun _ => 0))), ((u0 15), .inr (8, [.ref (u0 19), .int 1, .ref (u0 23)])), ((u0 19), .inl (k 1, 768, .inr (.inl (fun _ => 0)))), ((u0 8), .inr (4, [.ref (u0 12), .ref (u0 16), .int 0, .int 0, .int 0])), ((u0 12), .inl (k 0, 768, .inl (fun _ => 0))), ((u0 16), .inr (8, [.ref (u0 20), .int 1, .ref (u0 24)])), ((u0 20), .inl (k 1, 768, .inr (.inl (fun _ => 0)))), ((u0 9), .inr (4, [.ref (u0 13), .ref (u0 17), .int 0, .int 0, .int 0])), ((u0 13), .inl (k 0, 768, .inl (fun _ => 0))), ((u0 17), .inr (8, [.ref (u0 21), .int 1, .ref (u0 25)])), ((u0 21), .inl (k 1, 768, .inr (.inl (fun _ => 0)))), (o, .inl (k 1, 1, .inr (.inl (fun _ => 0))))]) [0, 1, 2, 3, 4, 5, 6, 7, 8, 9, 10, 11, 12, 13, 14, 15, 16, 17, 18, 19, 20, 29] (by decide) rfl
  have hFc := va_free (wc := [(to, .inr (12, [.ref (u0 0), .ref (u0 1), .ref (u0 2), .ref (u0 3), .ref (u0 4), .ref (u0 5), .int 0, .int 0, .int 0])), ((u0 0), .inl (k 3, 4, .inr (.inr (.inr (.inr (fun i => some (u0 (6 + i)))))))), ((u0 1), .inr (2, [.int 0, .ref e0, .int 0])), ((u0 2), .inr (2, [.int 0, .ref e0, .int 0])), ((u0 3), .inr (2, [.int 0, .ref e0, .int 0])), ((u0 6), .inr (4, [.ref (u0 10), .ref (u0 14), .int 0, .int 0, .int 0])), ((u0 10), .inl (k 0, 768, .inl (fun _ => 0))), ((u0 14), .inr (8, [.ref (u0 18), .int 1, .ref (u0 22)])), ((u0 18), .inl (k 1, 768, .inr (.inl (fun _ => 0)))), ((u0 7), .inr (4, [.ref (u0 11), .ref (u0 15), .int 0, .int 0, .int 0])), ((u0 11), .inl (k 0, 768, .inl (fun _ => 0))), ((u0 15), .inr (8, [.ref (u0 19), .int 1, .ref (u0 23)])), ((u0 19), .inl (k 1, 768, .inr (.inl (fun _ => 0)))), ((u0 8), .inr (4, [.ref (u0 12), .ref (u0 16), .int 0, .int 0, .int 0])), ((u0 12), .inl (k 0, 768, .inl (fun _ => 0))), ((u0 16), .inr (8, [.ref (u0 20), .int 1, .ref (u0 24)])), ((u0 20), .inl (k 1, 768, .inr (.inl (fun _ => 0)))), ((u0 9), .inr (4, [.ref (u0 13), .ref (u0 17), .int 0, .int 0, .int 0])), ((u0 13), .inl (k 0, 768, .inl (fun _ => 0))), ((u0 17), .inr (8, [.ref (u0 21), .int 1, .ref (u0 25)])), ((u0 21), .inl (k 1, 768, .inr (.inl (fun _ => 0)))), (o, .inl (k 1, 1, .inr (.inl (fun _ => 0))))]) hD hS hA [0, 1, 2, 3, 4, 5, 6, 7, 8, 9, 10, 11, 12, 13, 14, 15, 16, 17, 18, 19, 20, 29] rfl
  refine va_calli (vx_runSW (As := [.ref to, .int (xs 1), .int (xs 2), .int (xs 3), .int (xs 4), .ref o]) (rest := []) ⟨hx, hb, hml, hown, hts⟩ (k_L_remove l hst D k e0 H.size to o u0 (fun _ => 0) (xs 1) (xs 2) (xs 3) (xs 4)) (vx_cwSW 6 hts gL_law_L_remove rfl rfl rfl (by decide +kernel) ⟨Nat.le_of_ble_eq_true rfl, Nat.le_of_ble_eq_true rfl⟩) ⟨lPc_fb, lPc_go hC hNc hHf hS hPc hDc hFc⟩ rfl rfl hl.1 rfl (lv_room (Nat.le_of_ble_eq_true rfl)) dL_law_293 ⟨Nat.le_of_ble_eq_true rfl, Nat.le_of_ble_eq_true rfl⟩) hS (fun q9 _ h9 => hFc q9 h9) hFc (fun rL uL t H locs ht hvm hwL hB hz1 hk1 hS => ?_)
  obtain ⟨hP1, hD1⟩ := hB
  rw [ht] at hP1
  obtain ⟨hP, hD⟩ := va_join (wr := [(mo, .inr (13, [.int 0, .ref (w0 0), .int 0, .ref (w0 1), .int 0, .int 0, .ref (w0 2), .int 0, .ref (w0 3), .ref (w0 4), .int 0])), ((w0 0), .inl (k 5, 3, .inr (.inr (.inr (.inr (fun i => some (w0 (5 + i)))))))), ((w0 5), .inl (k 0, 768, .inl (fun _ => 0))), ((w0 6), .inl (k 0, 768, .inl (fun _ => 0))), ((w0 7), .inl (k 0, 768, .inl (fun _ => 0))), ((w0 1), .inl (k 6, 8, .inr (.inr (.inr (.inr (fun _ => none)))))), ((w0 2), .inl (k 6, 20, .inr (.inr (.inr (.inr (fun _ => none)))))), ((w0 4), .inl (k 6, 6, .inr (.inr (.inr (.inr (fun _ => none)))))), (od, .inl (k 8, 1, .inr (.inr (.inr (.inl (fun _ => 0))))))]) (w1 := [(o, .inl (k 1, 1, .inr (.inl uL)))]) hP hD [0, 1, 2, 3, 4, 5, 6, 7, 8, 9, 10, 11, 12, 13, 14, 15, 16, 17, 18, 19, 20, 29] [21, 22, 23, 24, 25, 26, 27, 28, 30] rfl rfl (by decide) (by decide) hk1 hFc hP1 hD1
  have hP : va_P D vwCl [(mo, .inr (13, [.int 0, .ref (w0 0), .int 0, .ref (w0 1), .int 0, .int 0, .ref (w0 2), .int 0, .ref (w0 3), .ref (w0 4), .int 0])), ((w0 0), .inl (k 5, 3, .inr (.inr (.inr (.inr (fun i => some (w0 (5 + i)))))))), ((w0 5), .inl (k 0, 768, .inl (fun _ => 0))), ((w0 6), .inl (k 0, 768, .inl (fun _ => 0))), ((w0 7), .inl (k 0, 768, .inl (fun _ => 0))), ((w0 1), .inl (k 6, 8, .inr (.inr (.inr (.inr (fun _ => none)))))), ((w0 2), .inl (k 6, 20, .inr (.inr (.inr (.inr (fun _ => none)))))), ((w0 4), .inl (k 6, 6, .inr (.inr (.inr (.inr (fun _ => none)))))), (od, .inl (k 8, 1, .inr (.inr (.inr (.inl (fun _ => 0)))))), (o, .inl (k 1, 1, .inr (.inl uL)))] H := hP
  have hD : va_D A [(mo, .inr (13, [.int 0, .ref (w0 0), .int 0, .ref (w0 1), .int 0, .int 0, .ref (w0 2), .int 0, .ref (w0 3), .ref (w0 4), .int 0])), ((w0 0), .inl (k 5, 3, .inr (.inr (.inr (.inr (fun i => some (w0 (5 + i)))))))), ((w0 5), .inl (k 0, 768, .inl (fun _ => 0))), ((w0 6), .inl (k 0, 768, .inl (fun _ => 0))), ((w0 7), .inl (k 0, 768, .inl (fun _ => 0))), ((w0 1), .inl (k 6, 8, .inr (.inr (.inr (.inr (fun _ => none)))))), ((w0 2), .inl (k 6, 20, .inr (.inr (.inr (.inr (fun _ => none)))))), ((w0 4), .inl (k 6, 6, .inr (.inr (.inr (.inr (fun _ => none)))))), (od, .inl (k 8, 1, .inr (.inr (.inr (.inl (fun _ => 0)))))), (o, .inl (k 1, 1, .inr (.inl uL)))] := hD
  rcases hwL with ⟨hok, rfl, hfL⟩ | ⟨hok, rfl⟩
  · refine lv_istore (lv' := [(6, .int 0), (0, .ref b), (1, .ref to), (2, .ref mo), (3, .ref o), (4, .ref od), (5, .int 0)]) hx hb dL_law_296 hl (by decide) rfl (fun ls hl => ?_)
    refine lv_aload_n hx hb dL_law_298 rfl (lv_at hl 3 rfl) ?_
    refine lv_aload_n hx hb dL_law_299 rfl (lv_at hl 1 rfl) ?_
    refine lv_iload hx hb dL_law_300 (lv_at hl 6 rfl) ?_
    refine lv_iconst (v := 1) hx hb dL_law_302 (by decide) ?_
    refine lv_iadd hx hb dL_law_303 ?_
    refine w_top (y := 1) (by decide) ?_
    refine va_sld hx hb hX hbl hbA hS (vp_in_nI (n := 1) (N := 6) (by decide) (by decide)) dL_law_304 ?_
    refine w_top (y := xs 1) rfl ?_
    refine lv_aload_n hx hb dL_law_305 rfl (lv_at hl 1 rfl) ?_
    refine lv_iload hx hb dL_law_306 (lv_at hl 6 rfl) ?_
    refine lv_iconst (v := 2) hx hb dL_law_308 (by decide) ?_
    refine lv_iadd hx hb dL_law_309 ?_
    refine w_top (y := 2) (by decide) ?_
    refine va_sld hx hb hX hbl hbA hS (vp_in_nI (n := 2) (N := 6) (by decide) (by decide)) dL_law_310 ?_
    refine w_top (y := xs 2) rfl ?_
    refine lv_aload_n hx hb dL_law_311 rfl (lv_at hl 1 rfl) ?_
    refine lv_iload hx hb dL_law_312 (lv_at hl 6 rfl) ?_
    refine lv_iconst (v := 3) hx hb dL_law_314 (by decide) ?_
    refine lv_iadd hx hb dL_law_315 ?_
    refine w_top (y := 3) (by decide) ?_
    refine va_sld hx hb hX hbl hbA hS (vp_in_nI (n := 3) (N := 6) (by decide) (by decide)) dL_law_316 ?_
    refine w_top (y := xs 3) rfl ?_
    refine lv_aload_n hx hb dL_law_317 rfl (lv_at hl 1 rfl) ?_
    refine lv_iload hx hb dL_law_318 (lv_at hl 6 rfl) ?_
    refine lv_iconst (v := 4) hx hb dL_law_320 (by decide) ?_
    refine lv_iadd hx hb dL_law_321 ?_
    refine w_top (y := 4) (by decide) ?_
    refine va_sld hx hb hX hbl hbA hS (vp_in_nI (n := 4) (N := 6) (by decide) (by decide)) dL_law_322 ?_
    refine w_top (y := xs 4) rfl ?_
    have hPc := hP.sub (ws' := [(mo, .inr (13, [.int 0, .ref (w0 0), .int 0, .ref (w0 1), .int 0, .int 0, .ref (w0 2), .int 0, .ref (w0 3), .ref (w0 4), .int 0])), ((w0 0), .inl (k 5, 3, .inr (.inr (.inr (.inr (fun i => some (w0 (5 + i)))))))), ((w0 5), .inl (k 0, 768, .inl (fun _ => 0))), ((w0 6), .inl (k 0, 768, .inl (fun _ => 0))), ((w0 7), .inl (k 0, 768, .inl (fun _ => 0))), ((w0 1), .inl (k 6, 8, .inr (.inr (.inr (.inr (fun _ => none)))))), ((w0 2), .inl (k 6, 20, .inr (.inr (.inr (.inr (fun _ => none)))))), ((w0 4), .inl (k 6, 6, .inr (.inr (.inr (.inr (fun _ => none))))))]) [0, 1, 2, 3, 4, 5, 6, 7] rfl
    have hDc := hD.sub (ws' := [(mo, .inr (13, [.int 0, .ref (w0 0), .int 0, .ref (w0 1), .int 0, .int 0, .ref (w0 2), .int 0, .ref (w0 3), .ref (w0 4), .int 0])), ((w0 0), .inl (k 5, 3, .inr (.inr (.inr (.inr (fun i => some (w0 (5 + i)))))))), ((w0 5), .inl (k 0, 768, .inl (fun _ => 0))), ((w0 6), .inl (k 0, 768, .inl (fun _ => 0))), ((w0 7), .inl (k 0, 768, .inl (fun _ => 0))), ((w0 1), .inl (k 6, 8, .inr (.inr (.inr (.inr (fun _ => none)))))), ((w0 2), .inl (k 6, 20, .inr (.inr (.inr (.inr (fun _ => none)))))), ((w0 4), .inl (k 6, 6, .inr (.inr (.inr (.inr (fun _ => none))))))]) [0, 1, 2, 3, 4, 5, 6, 7] (by decide) rfl
    have hFc := va_free (wc := [(mo, .inr (13, [.int 0, .ref (w0 0), .int 0, .ref (w0 1), .int 0, .int 0, .ref (w0 2), .int 0, .ref (w0 3), .ref (w0 4), .int 0])), ((w0 0), .inl (k 5, 3, .inr (.inr (.inr (.inr (fun i => some (w0 (5 + i)))))))), ((w0 5), .inl (k 0, 768, .inl (fun _ => 0))), ((w0 6), .inl (k 0, 768, .inl (fun _ => 0))), ((w0 7), .inl (k 0, 768, .inl (fun _ => 0))), ((w0 1), .inl (k 6, 8, .inr (.inr (.inr (.inr (fun _ => none)))))), ((w0 2), .inl (k 6, 20, .inr (.inr (.inr (.inr (fun _ => none)))))), ((w0 4), .inl (k 6, 6, .inr (.inr (.inr (.inr (fun _ => none))))))]) hD hS hA [0, 1, 2, 3, 4, 5, 6, 7] rfl
    refine va_calli (va_runV (As := [.int (xs 1), .int (xs 2), .int (xs 3), .int (xs 4)]) (rest := []) ⟨hx, hb, hml, hown, hts⟩ (k_X12_remove l D k e0 H.size mo w0 (xs 1) (xs 2) (xs 3) (xs 4)) (cwV 4 hts gL_law_X12_remove rfl rfl rfl (by decide +kernel) ⟨Nat.le_of_ble_eq_true rfl, Nat.le_of_ble_eq_true rfl⟩) ⟨mPc_fb, va_recv hC.1 hPc (ci := 13) (q0 := 0) rfl rfl, mPc_go hC hHf hS hPc hDc hFc⟩ rfl rfl hl.1 rfl (lv_room (Nat.le_of_ble_eq_true rfl)) dL_law_323 ⟨Nat.le_of_ble_eq_true rfl, Nat.le_of_ble_eq_true rfl⟩) hS (fun q9 _ h9 => hFc q9 h9) hFc (fun r2 u1 t H locs ht hvm hw_r2 hB hz1 hk1 hS => ?_)
    obtain ⟨hP1, hD1⟩ := hB
    rw [ht] at hP1
    obtain ⟨hP, hD⟩ := va_join (wr := [(od, .inl (k 8, 1, .inr (.inr (.inr (.inl (fun _ => 0)))))), (o, .inl (k 1, 1, .inr (.inl uL)))]) (w1 := [(mo, .inr (13, u1))]) hP hD [0, 1, 2, 3, 4, 5, 6, 7] [8, 9] rfl rfl (by decide) (by decide) hk1 hFc hP1 hD1
    have hP : va_P D vwCl [(od, .inl (k 8, 1, .inr (.inr (.inr (.inl (fun _ => 0)))))), (o, .inl (k 1, 1, .inr (.inl uL))), (mo, .inr (13, u1))] H := hP
    have hD : va_D A [(od, .inl (k 8, 1, .inr (.inr (.inr (.inl (fun _ => 0)))))), (o, .inl (k 1, 1, .inr (.inl uL))), (mo, .inr (13, u1))] := hD
    obtain ⟨hth, rfl⟩ : u1[0]? = some (.int 0) ∧ r2 = 0 := by rcases hw_r2 with ⟨_, z1, z2⟩ | ⟨z1, _⟩; exact ⟨z1, z2⟩; exact absurd hok z1
    refine lv_istore (lv' := [(7, .int 0), (6, .int 0), (0, .ref b), (1, .ref to), (2, .ref mo), (3, .ref o), (4, .ref od), (5, .int 0)]) hx hb dL_law_326 hl (by decide) rfl (fun ls hl => ?_)
    refine lv_aload_n hx hb dL_law_328 rfl (lv_at hl 4 rfl) ?_
    refine pz_i (va_runV (As := []) (rest := []) ⟨hx, hb, hml, hown, hts⟩ (k_X12_thrown l D k H mo u1 0 (hP.sub [2] rfl) hth) (cwV 0 hts gL_law_X12_thrown rfl rfl rfl (by decide +kernel) ⟨Nat.le_of_ble_eq_true rfl, Nat.le_of_ble_eq_true rfl⟩) ⟨pPc_fb, va_recv hC.1 hP (ci := 13) (q0 := 2) rfl rfl, pPc_go hC⟩ rfl rfl hl.1 rfl (lv_room (Nat.le_of_ble_eq_true rfl)) dL_law_329 ⟨Nat.le_of_ble_eq_true rfl, Nat.le_of_ble_eq_true rfl⟩) hS (fun r4 locs hw_r4 hS => ?_)
    subst hw_r4
    refine lv_iload hx hb dL_law_332 (lv_at hl 1 rfl) ?_
    refine lv_icmp_eq (tgt := 339) hx hb dL_law_334 (by decide) (fun c_334 => ?_) (fun c_334 => absurd (by decide) c_334)
    refine lv_iload hx hb dL_law_339 (lv_at hl 1 rfl) ?_
    refine lv_if_ne (tgt := 363) hx hb dL_law_341 (by decide) (fun c_341 => absurd c_341 (by decide)) (fun c_341 => ?_)
    refine lv_aload_n hx hb dL_law_344 rfl (lv_at hl 5 rfl) ?_
    refine lv_iconst (v := 0) hx hb dL_law_345 (by decide) ?_
    refine va_lald hx hb hC.1 hP 1 1 rfl rfl (vp_in_nI (n := 0) (N := 1) (by decide) (by decide)) dL_law_346 ?_
    refine w_topl (y := 0) hfL ?_
    refine lv_iload hx hb dL_law_347 (lv_at hl 0 rfl) ?_
    refine lv_if_eq (tgt := 356) hx hb dL_law_349 (by decide) (fun c_349 => ?_) (fun c_349 => absurd (by decide) c_349)
    refine lv_lconst (v := 0) hx hb dL_law_356 (by decide) ?_
    refine W.lcmp hx hb dL_law_357 ?_
    refine w_top (y := 0) (by decide) ?_
    refine lv_if_eq (tgt := 363) hx hb dL_law_358 (by decide) (fun c_358 => ?_) (fun c_358 => absurd (by decide) c_358)
    refine lv_goto (tgt := 2046) hx hb dL_law_363 (by decide) ?_
    refine W.widen (k := 100000) (n := 1000000) (Nat.le_of_ble_eq_true rfl) (Nat.le_of_ble_eq_true rfl) ?_
    exact law_end ⟨hx, hb, hr, hml, hown, hts0, hX, hbl, hlocks, hgv⟩ hAs hS (lv_sub hl [2, 7] rfl)
  · refine lv_istore (lv' := [(6, .int 1), (0, .ref b), (1, .ref to), (2, .ref mo), (3, .ref o), (4, .ref od), (5, .int 0)]) hx hb dL_law_296 hl (by decide) rfl (fun ls hl => ?_)
    refine lv_aload_n hx hb dL_law_298 rfl (lv_at hl 3 rfl) ?_
    refine lv_aload_n hx hb dL_law_299 rfl (lv_at hl 1 rfl) ?_
    refine lv_iload hx hb dL_law_300 (lv_at hl 6 rfl) ?_
    refine lv_iconst (v := 1) hx hb dL_law_302 (by decide) ?_
    refine lv_iadd hx hb dL_law_303 ?_
    refine w_top (y := 1) (by decide) ?_
    refine va_sld hx hb hX hbl hbA hS (vp_in_nI (n := 1) (N := 6) (by decide) (by decide)) dL_law_304 ?_
    refine w_top (y := xs 1) rfl ?_
    refine lv_aload_n hx hb dL_law_305 rfl (lv_at hl 1 rfl) ?_
    refine lv_iload hx hb dL_law_306 (lv_at hl 6 rfl) ?_
    refine lv_iconst (v := 2) hx hb dL_law_308 (by decide) ?_
    refine lv_iadd hx hb dL_law_309 ?_
    refine w_top (y := 2) (by decide) ?_
    refine va_sld hx hb hX hbl hbA hS (vp_in_nI (n := 2) (N := 6) (by decide) (by decide)) dL_law_310 ?_
    refine w_top (y := xs 2) rfl ?_
    refine lv_aload_n hx hb dL_law_311 rfl (lv_at hl 1 rfl) ?_
    refine lv_iload hx hb dL_law_312 (lv_at hl 6 rfl) ?_
    refine lv_iconst (v := 3) hx hb dL_law_314 (by decide) ?_
    refine lv_iadd hx hb dL_law_315 ?_
    refine w_top (y := 3) (by decide) ?_
    refine va_sld hx hb hX hbl hbA hS (vp_in_nI (n := 3) (N := 6) (by decide) (by decide)) dL_law_316 ?_
    refine w_top (y := xs 3) rfl ?_
    refine lv_aload_n hx hb dL_law_317 rfl (lv_at hl 1 rfl) ?_
    refine lv_iload hx hb dL_law_318 (lv_at hl 6 rfl) ?_
    refine lv_iconst (v := 4) hx hb dL_law_320 (by decide) ?_
    refine lv_iadd hx hb dL_law_321 ?_
    refine w_top (y := 4) (by decide) ?_
    refine va_sld hx hb hX hbl hbA hS (vp_in_nI (n := 4) (N := 6) (by decide) (by decide)) dL_law_322 ?_
    refine w_top (y := xs 4) rfl ?_
    have hPc := hP.sub (ws' := [(mo, .inr (13, [.int 0, .ref (w0 0), .int 0, .ref (w0 1), .int 0, .int 0, .ref (w0 2), .int 0, .ref (w0 3), .ref (w0 4), .int 0])), ((w0 0), .inl (k 5, 3, .inr (.inr (.inr (.inr (fun i => some (w0 (5 + i)))))))), ((w0 5), .inl (k 0, 768, .inl (fun _ => 0))), ((w0 6), .inl (k 0, 768, .inl (fun _ => 0))), ((w0 7), .inl (k 0, 768, .inl (fun _ => 0))), ((w0 1), .inl (k 6, 8, .inr (.inr (.inr (.inr (fun _ => none)))))), ((w0 2), .inl (k 6, 20, .inr (.inr (.inr (.inr (fun _ => none)))))), ((w0 4), .inl (k 6, 6, .inr (.inr (.inr (.inr (fun _ => none))))))]) [0, 1, 2, 3, 4, 5, 6, 7] rfl
    have hDc := hD.sub (ws' := [(mo, .inr (13, [.int 0, .ref (w0 0), .int 0, .ref (w0 1), .int 0, .int 0, .ref (w0 2), .int 0, .ref (w0 3), .ref (w0 4), .int 0])), ((w0 0), .inl (k 5, 3, .inr (.inr (.inr (.inr (fun i => some (w0 (5 + i)))))))), ((w0 5), .inl (k 0, 768, .inl (fun _ => 0))), ((w0 6), .inl (k 0, 768, .inl (fun _ => 0))), ((w0 7), .inl (k 0, 768, .inl (fun _ => 0))), ((w0 1), .inl (k 6, 8, .inr (.inr (.inr (.inr (fun _ => none)))))), ((w0 2), .inl (k 6, 20, .inr (.inr (.inr (.inr (fun _ => none)))))), ((w0 4), .inl (k 6, 6, .inr (.inr (.inr (.inr (fun _ => none))))))]) [0, 1, 2, 3, 4, 5, 6, 7] (by decide) rfl
    have hFc := va_free (wc := [(mo, .inr (13, [.int 0, .ref (w0 0), .int 0, .ref (w0 1), .int 0, .int 0, .ref (w0 2), .int 0, .ref (w0 3), .ref (w0 4), .int 0])), ((w0 0), .inl (k 5, 3, .inr (.inr (.inr (.inr (fun i => some (w0 (5 + i)))))))), ((w0 5), .inl (k 0, 768, .inl (fun _ => 0))), ((w0 6), .inl (k 0, 768, .inl (fun _ => 0))), ((w0 7), .inl (k 0, 768, .inl (fun _ => 0))), ((w0 1), .inl (k 6, 8, .inr (.inr (.inr (.inr (fun _ => none)))))), ((w0 2), .inl (k 6, 20, .inr (.inr (.inr (.inr (fun _ => none)))))), ((w0 4), .inl (k 6, 6, .inr (.inr (.inr (.inr (fun _ => none))))))]) hD hS hA [0, 1, 2, 3, 4, 5, 6, 7] rfl
    refine va_calli (va_runV (As := [.int (xs 1), .int (xs 2), .int (xs 3), .int (xs 4)]) (rest := []) ⟨hx, hb, hml, hown, hts⟩ (k_X12_remove l D k e0 H.size mo w0 (xs 1) (xs 2) (xs 3) (xs 4)) (cwV 4 hts gL_law_X12_remove rfl rfl rfl (by decide +kernel) ⟨Nat.le_of_ble_eq_true rfl, Nat.le_of_ble_eq_true rfl⟩) ⟨mPc_fb, va_recv hC.1 hPc (ci := 13) (q0 := 0) rfl rfl, mPc_go hC hHf hS hPc hDc hFc⟩ rfl rfl hl.1 rfl (lv_room (Nat.le_of_ble_eq_true rfl)) dL_law_323 ⟨Nat.le_of_ble_eq_true rfl, Nat.le_of_ble_eq_true rfl⟩) hS (fun q9 _ h9 => hFc q9 h9) hFc (fun r6 u5 t H locs ht hvm hw_r6 hB hz1 hk1 hS => ?_)
    obtain ⟨hP1, hD1⟩ := hB
    rw [ht] at hP1
    obtain ⟨hP, hD⟩ := va_join (wr := [(od, .inl (k 8, 1, .inr (.inr (.inr (.inl (fun _ => 0)))))), (o, .inl (k 1, 1, .inr (.inl uL)))]) (w1 := [(mo, .inr (13, u5))]) hP hD [0, 1, 2, 3, 4, 5, 6, 7] [8, 9] rfl rfl (by decide) (by decide) hk1 hFc hP1 hD1
    have hP : va_P D vwCl [(od, .inl (k 8, 1, .inr (.inr (.inr (.inl (fun _ => 0)))))), (o, .inl (k 1, 1, .inr (.inl uL))), (mo, .inr (13, u5))] H := hP
    have hD : va_D A [(od, .inl (k 8, 1, .inr (.inr (.inr (.inl (fun _ => 0)))))), (o, .inl (k 1, 1, .inr (.inl uL))), (mo, .inr (13, u5))] := hD
    have hth : u5[0]? = some (.int 1) := by rcases hw_r6 with ⟨z1, _⟩ | ⟨_, z1⟩; exact absurd z1 hok; exact z1
    refine lv_istore (lv' := [(7, .int r6), (6, .int 1), (0, .ref b), (1, .ref to), (2, .ref mo), (3, .ref o), (4, .ref od), (5, .int 0)]) hx hb dL_law_326 hl (by decide) rfl (fun ls hl => ?_)
    refine lv_aload_n hx hb dL_law_328 rfl (lv_at hl 4 rfl) ?_
    refine pz_i (va_runV (As := []) (rest := []) ⟨hx, hb, hml, hown, hts⟩ (k_X12_thrown l D k H mo u5 1 (hP.sub [2] rfl) hth) (cwV 0 hts gL_law_X12_thrown rfl rfl rfl (by decide +kernel) ⟨Nat.le_of_ble_eq_true rfl, Nat.le_of_ble_eq_true rfl⟩) ⟨pPc_fb, va_recv hC.1 hP (ci := 13) (q0 := 2) rfl rfl, pPc_go hC⟩ rfl rfl hl.1 rfl (lv_room (Nat.le_of_ble_eq_true rfl)) dL_law_329 ⟨Nat.le_of_ble_eq_true rfl, Nat.le_of_ble_eq_true rfl⟩) hS (fun r8 locs hw_r8 hS => ?_)
    subst hw_r8
    refine lv_iload hx hb dL_law_332 (lv_at hl 1 rfl) ?_
    refine lv_icmp_eq (tgt := 339) hx hb dL_law_334 (by decide) (fun c_334 => ?_) (fun c_334 => absurd (by decide) c_334)
    refine lv_iload hx hb dL_law_339 (lv_at hl 1 rfl) ?_
    refine lv_if_ne (tgt := 363) hx hb dL_law_341 (by decide) (fun c_341 => ?_) (fun c_341 => absurd c_341 (by decide))
    refine lv_goto (tgt := 2046) hx hb dL_law_363 (by decide) ?_
    refine W.widen (k := 100000) (n := 1000000) (Nat.le_of_ble_eq_true rfl) (Nat.le_of_ble_eq_true rfl) ?_
    exact law_end ⟨hx, hb, hr, hml, hown, hts0, hX, hbl, hlocks, hgv⟩ hAs hS (lv_sub hl [2, 7] rfl)

set_option maxHeartbeats 4000000 in
set_option maxRecDepth 100000 in
theorem law_c2 {p : Program} {l : Launch} {e : Env} {s : State} {m : MethodId} {below : List Frame} {meth : Method} {c : Code} {b : Nat} {xs : Nat → Int32} (hst : l.stackTraces = false) (C0 : lw_At p s m meth c b 6 xs) {D : va_G} {k : Nat → ClassId} {e0 to mo o od : Nat} {u0 w0 : Nat → Nat} {A : Nat → Prop} (hA : ∀ q, s.heap.size ≤ q → A q) (hAs : ∀ q, A q → s.heap.size ≤ q) (hC : wCx D k s) (hNc : wNc s) (hHf : wHf e0 A s s.heap) {H : Heap} {locs : List Loc} {ls : Array Slot} (hP : va_P D vwCl (wL k to mo o od e0 u0 w0) H) (hD : va_D A (wL k to mo o od e0 u0 w0)) (hS : va_S A s.heap H locs) (hl : lv_has ls 9 [(0, .ref b), (1, .ref to), (2, .ref mo), (3, .ref o), (4, .ref od), (5, .int 0)]) : W p l e room_1 s m #[Value.ref b] below meth c H locs 100 20000 (lw_Z below #[Value.ref b] s) (F0 m 366 ls []) := by
  obtain ⟨hx, hb, hr, hml, hown, hts0, hX, hbl, hlocks, hgv⟩ := C0
  have hts : ∀ w ∈ wsL_law, w.before #[Value.ref b] s = true := fun w h => hts0 w (wsL_law_in w h)
  have hbA : ¬ A b := fun h9 => absurd (hAs b h9) (Nat.not_le.mpr hbl)
  refine lv_aload_n hx hb dL_law_366 rfl (lv_at hl 1 rfl) ?_
  refine lv_aload_n hx hb dL_law_367 rfl (lv_at hl 0 rfl) ?_
  refine lv_iload hx hb dL_law_368 (lv_at hl 5 rfl) ?_
  refine lv_iconst (v := 1) hx hb dL_law_370 (by decide) ?_
  refine lv_iadd hx hb dL_law_371 ?_
  refine w_top (y := 1) (by decide) ?_
  refine va_sld hx hb hX hbl hbA hS (vp_in_nI (n := 1) (N := 6) (by decide) (by decide)) dL_law_372 ?_
  refine w_top (y := xs 1) rfl ?_
  refine lv_aload_n hx hb dL_law_373 rfl (lv_at hl 3 rfl) ?_
  have hPc := hP.sub (ws' := [(to, .inr (12, [.ref (u0 0), .ref (u0 1), .ref (u0 2), .ref (u0 3), .ref (u0 4), .ref (u0 5), .int 0, .int 0, .int 0])), ((u0 0), .inl (k 3, 4, .inr (.inr (.inr (.inr (fun i => some (u0 (6 + i)))))))), ((u0 1), .inr (2, [.int 0, .ref e0, .int 0])), ((u0 2), .inr (2, [.int 0, .ref e0, .int 0])), ((u0 3), .inr (2, [.int 0, .ref e0, .int 0])), ((u0 6), .inr (4, [.ref (u0 10), .ref (u0 14), .int 0, .int 0, .int 0])), ((u0 10), .inl (k 0, 768, .inl (fun _ => 0))), ((u0 14), .inr (8, [.ref (u0 18), .int 1, .ref (u0 22)])), ((u0 18), .inl (k 1, 768, .inr (.inl (fun _ => 0)))), ((u0 7), .inr (4, [.ref (u0 11), .ref (u0 15), .int 0, .int 0, .int 0])), ((u0 11), .inl (k 0, 768, .inl (fun _ => 0))), ((u0 15), .inr (8, [.ref (u0 19), .int 1, .ref (u0 23)])), ((u0 19), .inl (k 1, 768, .inr (.inl (fun _ => 0)))), ((u0 8), .inr (4, [.ref (u0 12), .ref (u0 16), .int 0, .int 0, .int 0])), ((u0 12), .inl (k 0, 768, .inl (fun _ => 0))), ((u0 16), .inr (8, [.ref (u0 20), .int 1, .ref (u0 24)])), ((u0 20), .inl (k 1, 768, .inr (.inl (fun _ => 0)))), ((u0 9), .inr (4, [.ref (u0 13), .ref (u0 17), .int 0, .int 0, .int 0])), ((u0 13), .inl (k 0, 768, .inl (fun _ => 0))), ((u0 17), .inr (8, [.ref (u0 21), .int 1, .ref (u0 25)])), ((u0 21), .inl (k 1, 768, .inr (.inl (fun _ => 0)))), (o, .inl (k 1, 1, .inr (.inl (fun _ => 0))))]) [0, 1, 2, 3, 4, 5, 6, 7, 8, 9, 10, 11, 12, 13, 14, 15, 16, 17, 18, 19, 20, 29] rfl
  have hDc := hD.sub (ws' := [(to, .inr (12, [.ref (u0 0), .ref (u0 1), .ref (u0 2), .ref (u0 3), .ref (u0 4), .ref (u0 5), .int 0, .int 0, .int 0])), ((u0 0), .inl (k 3, 4, .inr (.inr (.inr (.inr (fun i => some (u0 (6 + i)))))))), ((u0 1), .inr (2, [.int 0, .ref e0, .int 0])), ((u0 2), .inr (2, [.int 0, .ref e0, .int 0])), ((u0 3), .inr (2, [.int 0, .ref e0, .int 0])), ((u0 6), .inr (4, [.ref (u0 10), .ref (u0 14), .int 0, .int 0, .int 0])), ((u0 10), .inl (k 0, 768, .inl (fun _ => 0))), ((u0 14), .inr (8, [.ref (u0 18), .int 1, .ref (u0 22)])), ((u0 18), .inl (k 1, 768, .inr (.inl (fun _ => 0)))), ((u0 7), .inr (4, [.ref (u0 11), .ref (u0 15), .int 0, .int 0, .int 0])), ((u0 11), .inl (k 0, 768, .inl (fun _ => 0))), ((u0 15), .inr (8, [.ref (u0 19), .int 1, .ref (u0 23)])), ((u0 19), .inl (k 1, 768, .inr (.inl (fun _ => 0)))), ((u0 8), .inr (4, [.ref (u0 12), .ref (u0 16), .int 0, .int 0, .int 0])), ((u0 12), .inl (k 0, 768, .inl (fun _ => 0))), ((u0 16), .inr (8, [.ref (u0 20), .int 1, .ref (u0 24)])), ((u0 20), .inl (k 1, 768, .inr (.inl (fun _ => 0)))), ((u0 9), .inr (4, [.ref (u0 13), .ref (u0 17), .int 0, .int 0, .int 0])), ((u0 13), .inl (k 0, 768, .inl (fun _ => 0))), ((u0 17), .inr (8, [.ref (u0 21), .int 1, .ref (u0 25)])), ((u0 21), .inl (k 1, 768, .inr (.inl (fun _ => 0)))), (o, .inl (k 1, 1, .inr (.inl (fun _ => 0))))]) [0, 1, 2, 3, 4, 5, 6, 7, 8, 9, 10, 11, 12, 13, 14, 15, 16, 17, 18, 19, 20, 29] (by decide) rfl
  have hFc := va_free (wc := [(to, .inr (12, [.ref (u0 0), .ref (u0 1), .ref (u0 2), .ref (u0 3), .ref (u0 4), .ref (u0 5), .int 0, .int 0, .int 0])), ((u0 0), .inl (k 3, 4, .inr (.inr (.inr (.inr (fun i => some (u0 (6 + i)))))))), ((u0 1), .inr (2, [.int 0, .ref e0, .int 0])), ((u0 2), .inr (2, [.int 0, .ref e0, .int 0])), ((u0 3), .inr (2, [.int 0, .ref e0, .int 0])), ((u0 6), .inr (4, [.ref (u0 10), .ref (u0 14), .int 0, .int 0, .int 0])), ((u0 10), .inl (k 0, 768, .inl (fun _ => 0))), ((u0 14), .inr (8, [.ref (u0 18), .int 1, .ref (u0 22)])), ((u0 18), .inl (k 1, 768, .inr (.inl (fun _ => 0)))), ((u0 7), .inr (4, [.ref (u0 11), .ref (u0 15), .int 0, .int 0, .int 0])), ((u0 11), .inl (k 0, 768, .inl (fun _ => 0))), ((u0 15), .inr (8, [.ref (u0 19), .int 1, .ref (u0 23)])), ((u0 19), .inl (k 1, 768, .inr (.inl (fun _ => 0)))), ((u0 8), .inr (4, [.ref (u0 12), .ref (u0 16), .int 0, .int 0, .int 0])), ((u0 12), .inl (k 0, 768, .inl (fun _ => 0))), ((u0 16), .inr (8, [.ref (u0 20), .int 1, .ref (u0 24)])), ((u0 20), .inl (k 1, 768, .inr (.inl (fun _ => 0)))), ((u0 9), .inr (4, [.ref (u0 13), .ref (u0 17), .int 0, .int 0, .int 0])), ((u0 13), .inl (k 0, 768, .inl (fun _ => 0))), ((u0 17), .inr (8, [.ref (u0 21), .int 1, .ref (u0 25)])), ((u0 21), .inl (k 1, 768, .inr (.inl (fun _ => 0)))), (o, .inl (k 1, 1, .inr (.inl (fun _ => 0))))]) hD hS hA [0, 1, 2, 3, 4, 5, 6, 7, 8, 9, 10, 11, 12, 13, 14, 15, 16, 17, 18, 19, 20, 29] rfl
  refine va_calli (vx_runSW (As := [.ref to, .int (xs 1), .ref o]) (rest := []) ⟨hx, hb, hml, hown, hts⟩ (k_L_size l hst D k e0 H.size to o u0 (fun _ => 0) (xs 1)) (vx_cwSW 3 hts gL_law_L_size rfl rfl rfl (by decide +kernel) ⟨Nat.le_of_ble_eq_true rfl, Nat.le_of_ble_eq_true rfl⟩) ⟨lPc_fb, lPc_go hC hNc hHf hS hPc hDc hFc⟩ rfl rfl hl.1 rfl (lv_room (Nat.le_of_ble_eq_true rfl)) dL_law_374 ⟨Nat.le_of_ble_eq_true rfl, Nat.le_of_ble_eq_true rfl⟩) hS (fun q9 _ h9 => hFc q9 h9) hFc (fun rL uL t H locs ht hvm hwL hB hz1 hk1 hS => ?_)
  obtain ⟨hP1, hD1⟩ := hB
  rw [ht] at hP1
  obtain ⟨hP, hD⟩ := va_join (wr := [(mo, .inr (13, [.int 0, .ref (w0 0), .int 0, .ref (w0 1), .int 0, .int 0, .ref (w0 2), .int 0, .ref (w0 3), .ref (w0 4), .int 0])), ((w0 0), .inl (k 5, 3, .inr (.inr (.inr (.inr (fun i => some (w0 (5 + i)))))))), ((w0 5), .inl (k 0, 768, .inl (fun _ => 0))), ((w0 6), .inl (k 0, 768, .inl (fun _ => 0))), ((w0 7), .inl (k 0, 768, .inl (fun _ => 0))), ((w0 1), .inl (k 6, 8, .inr (.inr (.inr (.inr (fun _ => none)))))), ((w0 2), .inl (k 6, 20, .inr (.inr (.inr (.inr (fun _ => none)))))), ((w0 4), .inl (k 6, 6, .inr (.inr (.inr (.inr (fun _ => none)))))), (od, .inl (k 8, 1, .inr (.inr (.inr (.inl (fun _ => 0))))))]) (w1 := [(o, .inl (k 1, 1, .inr (.inl uL)))]) hP hD [0, 1, 2, 3, 4, 5, 6, 7, 8, 9, 10, 11, 12, 13, 14, 15, 16, 17, 18, 19, 20, 29] [21, 22, 23, 24, 25, 26, 27, 28, 30] rfl rfl (by decide) (by decide) hk1 hFc hP1 hD1
  have hP : va_P D vwCl [(mo, .inr (13, [.int 0, .ref (w0 0), .int 0, .ref (w0 1), .int 0, .int 0, .ref (w0 2), .int 0, .ref (w0 3), .ref (w0 4), .int 0])), ((w0 0), .inl (k 5, 3, .inr (.inr (.inr (.inr (fun i => some (w0 (5 + i)))))))), ((w0 5), .inl (k 0, 768, .inl (fun _ => 0))), ((w0 6), .inl (k 0, 768, .inl (fun _ => 0))), ((w0 7), .inl (k 0, 768, .inl (fun _ => 0))), ((w0 1), .inl (k 6, 8, .inr (.inr (.inr (.inr (fun _ => none)))))), ((w0 2), .inl (k 6, 20, .inr (.inr (.inr (.inr (fun _ => none)))))), ((w0 4), .inl (k 6, 6, .inr (.inr (.inr (.inr (fun _ => none)))))), (od, .inl (k 8, 1, .inr (.inr (.inr (.inl (fun _ => 0)))))), (o, .inl (k 1, 1, .inr (.inl uL)))] H := hP
  have hD : va_D A [(mo, .inr (13, [.int 0, .ref (w0 0), .int 0, .ref (w0 1), .int 0, .int 0, .ref (w0 2), .int 0, .ref (w0 3), .ref (w0 4), .int 0])), ((w0 0), .inl (k 5, 3, .inr (.inr (.inr (.inr (fun i => some (w0 (5 + i)))))))), ((w0 5), .inl (k 0, 768, .inl (fun _ => 0))), ((w0 6), .inl (k 0, 768, .inl (fun _ => 0))), ((w0 7), .inl (k 0, 768, .inl (fun _ => 0))), ((w0 1), .inl (k 6, 8, .inr (.inr (.inr (.inr (fun _ => none)))))), ((w0 2), .inl (k 6, 20, .inr (.inr (.inr (.inr (fun _ => none)))))), ((w0 4), .inl (k 6, 6, .inr (.inr (.inr (.inr (fun _ => none)))))), (od, .inl (k 8, 1, .inr (.inr (.inr (.inl (fun _ => 0)))))), (o, .inl (k 1, 1, .inr (.inl uL)))] := hD
  rcases hwL with ⟨hok, rfl, hfL⟩ | ⟨hok, rfl⟩
  · refine lv_istore (lv' := [(6, .int 0), (0, .ref b), (1, .ref to), (2, .ref mo), (3, .ref o), (4, .ref od), (5, .int 0)]) hx hb dL_law_377 hl (by decide) rfl (fun ls hl => ?_)
    refine lv_aload_n hx hb dL_law_379 rfl (lv_at hl 3 rfl) ?_
    refine lv_aload_n hx hb dL_law_380 rfl (lv_at hl 1 rfl) ?_
    refine lv_iload hx hb dL_law_381 (lv_at hl 6 rfl) ?_
    refine lv_iconst (v := 1) hx hb dL_law_383 (by decide) ?_
    refine lv_iadd hx hb dL_law_384 ?_
    refine w_top (y := 1) (by decide) ?_
    refine va_sld hx hb hX hbl hbA hS (vp_in_nI (n := 1) (N := 6) (by decide) (by decide)) dL_law_385 ?_
    refine w_top (y := xs 1) rfl ?_
    have hPc := hP.sub (ws' := [(mo, .inr (13, [.int 0, .ref (w0 0), .int 0, .ref (w0 1), .int 0, .int 0, .ref (w0 2), .int 0, .ref (w0 3), .ref (w0 4), .int 0])), ((w0 0), .inl (k 5, 3, .inr (.inr (.inr (.inr (fun i => some (w0 (5 + i)))))))), ((w0 5), .inl (k 0, 768, .inl (fun _ => 0))), ((w0 6), .inl (k 0, 768, .inl (fun _ => 0))), ((w0 7), .inl (k 0, 768, .inl (fun _ => 0))), ((w0 1), .inl (k 6, 8, .inr (.inr (.inr (.inr (fun _ => none)))))), ((w0 2), .inl (k 6, 20, .inr (.inr (.inr (.inr (fun _ => none)))))), ((w0 4), .inl (k 6, 6, .inr (.inr (.inr (.inr (fun _ => none))))))]) [0, 1, 2, 3, 4, 5, 6, 7] rfl
    have hDc := hD.sub (ws' := [(mo, .inr (13, [.int 0, .ref (w0 0), .int 0, .ref (w0 1), .int 0, .int 0, .ref (w0 2), .int 0, .ref (w0 3), .ref (w0 4), .int 0])), ((w0 0), .inl (k 5, 3, .inr (.inr (.inr (.inr (fun i => some (w0 (5 + i)))))))), ((w0 5), .inl (k 0, 768, .inl (fun _ => 0))), ((w0 6), .inl (k 0, 768, .inl (fun _ => 0))), ((w0 7), .inl (k 0, 768, .inl (fun _ => 0))), ((w0 1), .inl (k 6, 8, .inr (.inr (.inr (.inr (fun _ => none)))))), ((w0 2), .inl (k 6, 20, .inr (.inr (.inr (.inr (fun _ => none)))))), ((w0 4), .inl (k 6, 6, .inr (.inr (.inr (.inr (fun _ => none))))))]) [0, 1, 2, 3, 4, 5, 6, 7] (by decide) rfl
    have hFc := va_free (wc := [(mo, .inr (13, [.int 0, .ref (w0 0), .int 0, .ref (w0 1), .int 0, .int 0, .ref (w0 2), .int 0, .ref (w0 3), .ref (w0 4), .int 0])), ((w0 0), .inl (k 5, 3, .inr (.inr (.inr (.inr (fun i => some (w0 (5 + i)))))))), ((w0 5), .inl (k 0, 768, .inl (fun _ => 0))), ((w0 6), .inl (k 0, 768, .inl (fun _ => 0))), ((w0 7), .inl (k 0, 768, .inl (fun _ => 0))), ((w0 1), .inl (k 6, 8, .inr (.inr (.inr (.inr (fun _ => none)))))), ((w0 2), .inl (k 6, 20, .inr (.inr (.inr (.inr (fun _ => none)))))), ((w0 4), .inl (k 6, 6, .inr (.inr (.inr (.inr (fun _ => none))))))]) hD hS hA [0, 1, 2, 3, 4, 5, 6, 7] rfl
    refine va_calli (va_runV (As := [.int (xs 1)]) (rest := []) ⟨hx, hb, hml, hown, hts⟩ (k_X12_size l D k e0 H.size mo w0 (xs 1)) (cwV 1 hts gL_law_X12_size rfl rfl rfl (by decide +kernel) ⟨Nat.le_of_ble_eq_true rfl, Nat.le_of_ble_eq_true rfl⟩) ⟨mPc_fb, va_recv hC.1 hPc (ci := 13) (q0 := 0) rfl rfl, mPc_go hC hHf hS hPc hDc hFc⟩ rfl rfl hl.1 rfl (lv_room (Nat.le_of_ble_eq_true rfl)) dL_law_386 ⟨Nat.le_of_ble_eq_true rfl, Nat.le_of_ble_eq_true rfl⟩) hS (fun q9 _ h9 => hFc q9 h9) hFc (fun r2 u1 t H locs ht hvm hw_r2 hB hz1 hk1 hS => ?_)
    obtain ⟨hP1, hD1⟩ := hB
    rw [ht] at hP1
    obtain ⟨hP, hD⟩ := va_join (wr := [(od, .inl (k 8, 1, .inr (.inr (.inr (.inl (fun _ => 0)))))), (o, .inl (k 1, 1, .inr (.inl uL)))]) (w1 := [(mo, .inr (13, u1))]) hP hD [0, 1, 2, 3, 4, 5, 6, 7] [8, 9] rfl rfl (by decide) (by decide) hk1 hFc hP1 hD1
    have hP : va_P D vwCl [(od, .inl (k 8, 1, .inr (.inr (.inr (.inl (fun _ => 0)))))), (o, .inl (k 1, 1, .inr (.inl uL))), (mo, .inr (13, u1))] H := hP
    have hD : va_D A [(od, .inl (k 8, 1, .inr (.inr (.inr (.inl (fun _ => 0)))))), (o, .inl (k 1, 1, .inr (.inl uL))), (mo, .inr (13, u1))] := hD
    obtain ⟨hth, rfl⟩ : u1[0]? = some (.int 0) ∧ r2 = 0 := by rcases hw_r2 with ⟨_, z1, z2⟩ | ⟨z1, _⟩; exact ⟨z1, z2⟩; exact absurd hok z1
    refine lv_istore (lv' := [(7, .int 0), (6, .int 0), (0, .ref b), (1, .ref to), (2, .ref mo), (3, .ref o), (4, .ref od), (5, .int 0)]) hx hb dL_law_389 hl (by decide) rfl (fun ls hl => ?_)
    refine lv_aload_n hx hb dL_law_391 rfl (lv_at hl 4 rfl) ?_
    refine pz_i (va_runV (As := []) (rest := []) ⟨hx, hb, hml, hown, hts⟩ (k_X12_thrown l D k H mo u1 0 (hP.sub [2] rfl) hth) (cwV 0 hts gL_law_X12_thrown rfl rfl rfl (by decide +kernel) ⟨Nat.le_of_ble_eq_true rfl, Nat.le_of_ble_eq_true rfl⟩) ⟨pPc_fb, va_recv hC.1 hP (ci := 13) (q0 := 2) rfl rfl, pPc_go hC⟩ rfl rfl hl.1 rfl (lv_room (Nat.le_of_ble_eq_true rfl)) dL_law_392 ⟨Nat.le_of_ble_eq_true rfl, Nat.le_of_ble_eq_true rfl⟩) hS (fun r4 locs hw_r4 hS => ?_)
    subst hw_r4
    refine lv_iload hx hb dL_law_395 (lv_at hl 1 rfl) ?_
    refine lv_icmp_eq (tgt := 402) hx hb dL_law_397 (by decide) (fun c_397 => ?_) (fun c_397 => absurd (by decide) c_397)
    refine lv_iload hx hb dL_law_402 (lv_at hl 1 rfl) ?_
    refine lv_if_ne (tgt := 419) hx hb dL_law_404 (by decide) (fun c_404 => absurd c_404 (by decide)) (fun c_404 => ?_)
    refine lv_aload_n hx hb dL_law_407 rfl (lv_at hl 5 rfl) ?_
    refine lv_iconst (v := 0) hx hb dL_law_408 (by decide) ?_
    refine va_lald hx hb hC.1 hP 1 1 rfl rfl (vp_in_nI (n := 0) (N := 1) (by decide) (by decide)) dL_law_409 ?_
    refine w_topl (y := 0) hfL ?_
    refine lv_iload hx hb dL_law_410 (lv_at hl 0 rfl) ?_
    refine lv_i2l (v := 0) hx hb dL_law_412 (by decide) ?_
    refine W.lcmp hx hb dL_law_413 ?_
    refine w_top (y := 0) (by decide) ?_
    refine lv_if_eq (tgt := 419) hx hb dL_law_414 (by decide) (fun c_414 => ?_) (fun c_414 => absurd (by decide) c_414)
    refine lv_goto (tgt := 2046) hx hb dL_law_419 (by decide) ?_
    refine W.widen (k := 100000) (n := 1000000) (Nat.le_of_ble_eq_true rfl) (Nat.le_of_ble_eq_true rfl) ?_
    exact law_end ⟨hx, hb, hr, hml, hown, hts0, hX, hbl, hlocks, hgv⟩ hAs hS (lv_sub hl [2, 7] rfl)
  · refine lv_istore (lv' := [(6, .int 1), (0, .ref b), (1, .ref to), (2, .ref mo), (3, .ref o), (4, .ref od), (5, .int 0)]) hx hb dL_law_377 hl (by decide) rfl (fun ls hl => ?_)
    refine lv_aload_n hx hb dL_law_379 rfl (lv_at hl 3 rfl) ?_
    refine lv_aload_n hx hb dL_law_380 rfl (lv_at hl 1 rfl) ?_
    refine lv_iload hx hb dL_law_381 (lv_at hl 6 rfl) ?_
    refine lv_iconst (v := 1) hx hb dL_law_383 (by decide) ?_
    refine lv_iadd hx hb dL_law_384 ?_
    refine w_top (y := 1) (by decide) ?_
    refine va_sld hx hb hX hbl hbA hS (vp_in_nI (n := 1) (N := 6) (by decide) (by decide)) dL_law_385 ?_
    refine w_top (y := xs 1) rfl ?_
    have hPc := hP.sub (ws' := [(mo, .inr (13, [.int 0, .ref (w0 0), .int 0, .ref (w0 1), .int 0, .int 0, .ref (w0 2), .int 0, .ref (w0 3), .ref (w0 4), .int 0])), ((w0 0), .inl (k 5, 3, .inr (.inr (.inr (.inr (fun i => some (w0 (5 + i)))))))), ((w0 5), .inl (k 0, 768, .inl (fun _ => 0))), ((w0 6), .inl (k 0, 768, .inl (fun _ => 0))), ((w0 7), .inl (k 0, 768, .inl (fun _ => 0))), ((w0 1), .inl (k 6, 8, .inr (.inr (.inr (.inr (fun _ => none)))))), ((w0 2), .inl (k 6, 20, .inr (.inr (.inr (.inr (fun _ => none)))))), ((w0 4), .inl (k 6, 6, .inr (.inr (.inr (.inr (fun _ => none))))))]) [0, 1, 2, 3, 4, 5, 6, 7] rfl
    have hDc := hD.sub (ws' := [(mo, .inr (13, [.int 0, .ref (w0 0), .int 0, .ref (w0 1), .int 0, .int 0, .ref (w0 2), .int 0, .ref (w0 3), .ref (w0 4), .int 0])), ((w0 0), .inl (k 5, 3, .inr (.inr (.inr (.inr (fun i => some (w0 (5 + i)))))))), ((w0 5), .inl (k 0, 768, .inl (fun _ => 0))), ((w0 6), .inl (k 0, 768, .inl (fun _ => 0))), ((w0 7), .inl (k 0, 768, .inl (fun _ => 0))), ((w0 1), .inl (k 6, 8, .inr (.inr (.inr (.inr (fun _ => none)))))), ((w0 2), .inl (k 6, 20, .inr (.inr (.inr (.inr (fun _ => none)))))), ((w0 4), .inl (k 6, 6, .inr (.inr (.inr (.inr (fun _ => none))))))]) [0, 1, 2, 3, 4, 5, 6, 7] (by decide) rfl
    have hFc := va_free (wc := [(mo, .inr (13, [.int 0, .ref (w0 0), .int 0, .ref (w0 1), .int 0, .int 0, .ref (w0 2), .int 0, .ref (w0 3), .ref (w0 4), .int 0])), ((w0 0), .inl (k 5, 3, .inr (.inr (.inr (.inr (fun i => some (w0 (5 + i)))))))), ((w0 5), .inl (k 0, 768, .inl (fun _ => 0))), ((w0 6), .inl (k 0, 768, .inl (fun _ => 0))), ((w0 7), .inl (k 0, 768, .inl (fun _ => 0))), ((w0 1), .inl (k 6, 8, .inr (.inr (.inr (.inr (fun _ => none)))))), ((w0 2), .inl (k 6, 20, .inr (.inr (.inr (.inr (fun _ => none)))))), ((w0 4), .inl (k 6, 6, .inr (.inr (.inr (.inr (fun _ => none))))))]) hD hS hA [0, 1, 2, 3, 4, 5, 6, 7] rfl
    refine va_calli (va_runV (As := [.int (xs 1)]) (rest := []) ⟨hx, hb, hml, hown, hts⟩ (k_X12_size l D k e0 H.size mo w0 (xs 1)) (cwV 1 hts gL_law_X12_size rfl rfl rfl (by decide +kernel) ⟨Nat.le_of_ble_eq_true rfl, Nat.le_of_ble_eq_true rfl⟩) ⟨mPc_fb, va_recv hC.1 hPc (ci := 13) (q0 := 0) rfl rfl, mPc_go hC hHf hS hPc hDc hFc⟩ rfl rfl hl.1 rfl (lv_room (Nat.le_of_ble_eq_true rfl)) dL_law_386 ⟨Nat.le_of_ble_eq_true rfl, Nat.le_of_ble_eq_true rfl⟩) hS (fun q9 _ h9 => hFc q9 h9) hFc (fun r6 u5 t H locs ht hvm hw_r6 hB hz1 hk1 hS => ?_)
    obtain ⟨hP1, hD1⟩ := hB
    rw [ht] at hP1
    obtain ⟨hP, hD⟩ := va_join (wr := [(od, .inl (k 8, 1, .inr (.inr (.inr (.inl (fun _ => 0)))))), (o, .inl (k 1, 1, .inr (.inl uL)))]) (w1 := [(mo, .inr (13, u5))]) hP hD [0, 1, 2, 3, 4, 5, 6, 7] [8, 9] rfl rfl (by decide) (by decide) hk1 hFc hP1 hD1
    have hP : va_P D vwCl [(od, .inl (k 8, 1, .inr (.inr (.inr (.inl (fun _ => 0)))))), (o, .inl (k 1, 1, .inr (.inl uL))), (mo, .inr (13, u5))] H := hP
    have hD : va_D A [(od, .inl (k 8, 1, .inr (.inr (.inr (.inl (fun _ => 0)))))), (o, .inl (k 1, 1, .inr (.inl uL))), (mo, .inr (13, u5))] := hD
    have hth : u5[0]? = some (.int 1) := by rcases hw_r6 with ⟨z1, _⟩ | ⟨_, z1⟩; exact absurd z1 hok; exact z1
    refine lv_istore (lv' := [(7, .int r6), (6, .int 1), (0, .ref b), (1, .ref to), (2, .ref mo), (3, .ref o), (4, .ref od), (5, .int 0)]) hx hb dL_law_389 hl (by decide) rfl (fun ls hl => ?_)
    refine lv_aload_n hx hb dL_law_391 rfl (lv_at hl 4 rfl) ?_
    refine pz_i (va_runV (As := []) (rest := []) ⟨hx, hb, hml, hown, hts⟩ (k_X12_thrown l D k H mo u5 1 (hP.sub [2] rfl) hth) (cwV 0 hts gL_law_X12_thrown rfl rfl rfl (by decide +kernel) ⟨Nat.le_of_ble_eq_true rfl, Nat.le_of_ble_eq_true rfl⟩) ⟨pPc_fb, va_recv hC.1 hP (ci := 13) (q0 := 2) rfl rfl, pPc_go hC⟩ rfl rfl hl.1 rfl (lv_room (Nat.le_of_ble_eq_true rfl)) dL_law_392 ⟨Nat.le_of_ble_eq_true rfl, Nat.le_of_ble_eq_true rfl⟩) hS (fun r8 locs hw_r8 hS => ?_)
    subst hw_r8
    refine lv_iload hx hb dL_law_395 (lv_at hl 1 rfl) ?_
    refine lv_icmp_eq (tgt := 402) hx hb dL_law_397 (by decide) (fun c_397 => ?_) (fun c_397 => absurd (by decide) c_397)
    refine lv_iload hx hb dL_law_402 (lv_at hl 1 rfl) ?_
    refine lv_if_ne (tgt := 419) hx hb dL_law_404 (by decide) (fun c_404 => ?_) (fun c_404 => absurd c_404 (by decide))
    refine lv_goto (tgt := 2046) hx hb dL_law_419 (by decide) ?_
    refine W.widen (k := 100000) (n := 1000000) (Nat.le_of_ble_eq_true rfl) (Nat.le_of_ble_eq_true rfl) ?_
    exact law_end ⟨hx, hb, hr, hml, hown, hts0, hX, hbl, hlocks, hgv⟩ hAs hS (lv_sub hl [2, 7] rfl)

set_option maxHeartbeats 4000000 in
set_option maxRecDepth 100000 in
theorem law_c3 {p : Program} {l : Launch} {e : Env} {s : State} {m : MethodId} {below : List Frame} {meth : Method} {c : Code} {b : Nat} {xs : Nat → Int32} (hst : l.stackTraces = false) (C0 : lw_At p s m meth c b 6 xs) {D : va_G} {k : Nat → ClassId} {e0 to mo o od : Nat} {u0 w0 : Nat → Nat} {A : Nat → Prop} (hA : ∀ q, s.heap.size ≤ q → A q) (hAs : ∀ q, A q → s.heap.size ≤ q) (hC : wCx D k s) (hNc : wNc s) (hHf : wHf e0 A s s.heap) {H : Heap} {locs : List Loc} {ls : Array Slot} (hP : va_P D vwCl (wL k to mo o od e0 u0 w0) H) (hD : va_D A (wL k to mo o od e0 u0 w0)) (hS : va_S A s.heap H locs) (hl : lv_has ls 9 [(0, .ref b), (1, .ref to), (2, .ref mo), (3, .ref o), (4, .ref od), (5, .int 0)]) : W p l e room_1 s m #[Value.ref b] below meth c H locs 100 20000 (lw_Z below #[Value.ref b] s) (F0 m 422 ls []) := by
  obtain ⟨hx, hb, hr, hml, hown, hts0, hX, hbl, hlocks, hgv⟩ := C0
  have hts : ∀ w ∈ wsL_law, w.before #[Value.ref b] s = true := fun w h => hts0 w (wsL_law_in w h)
  have hbA : ¬ A b := fun h9 => absurd (hAs b h9) (Nat.not_le.mpr hbl)
  refine lv_aload_n hx hb dL_law_422 rfl (lv_at hl 1 rfl) ?_
  refine lv_aload_n hx hb dL_law_423 rfl (lv_at hl 0 rfl) ?_
  refine lv_iload hx hb dL_law_424 (lv_at hl 5 rfl) ?_
  refine lv_iconst (v := 1) hx hb dL_law_426 (by decide) ?_
  refine lv_iadd hx hb dL_law_427 ?_
  refine w_top (y := 1) (by decide) ?_
  refine va_sld hx hb hX hbl hbA hS (vp_in_nI (n := 1) (N := 6) (by decide) (by decide)) dL_law_428 ?_
  refine w_top (y := xs 1) rfl ?_
  refine lv_i2c (v := ((xs 1).toUInt32 % 65536).toInt32) hx hb dL_law_429 rfl ?_
  refine lv_aload_n hx hb dL_law_430 rfl (lv_at hl 0 rfl) ?_
  refine lv_iload hx hb dL_law_431 (lv_at hl 5 rfl) ?_
  refine lv_iconst (v := 2) hx hb dL_law_433 (by decide) ?_
  refine lv_iadd hx hb dL_law_434 ?_
  refine w_top (y := 2) (by decide) ?_
  refine va_sld hx hb hX hbl hbA hS (vp_in_nI (n := 2) (N := 6) (by decide) (by decide)) dL_law_435 ?_
  refine w_top (y := xs 2) rfl ?_
  refine lv_aload_n hx hb dL_law_436 rfl (lv_at hl 0 rfl) ?_
  refine lv_iload hx hb dL_law_437 (lv_at hl 5 rfl) ?_
  refine lv_iconst (v := 3) hx hb dL_law_439 (by decide) ?_
  refine lv_iadd hx hb dL_law_440 ?_
  refine w_top (y := 3) (by decide) ?_
  refine va_sld hx hb hX hbl hbA hS (vp_in_nI (n := 3) (N := 6) (by decide) (by decide)) dL_law_441 ?_
  refine w_top (y := xs 3) rfl ?_
  refine lv_aload_n hx hb dL_law_442 rfl (lv_at hl 0 rfl) ?_
  refine lv_iload hx hb dL_law_443 (lv_at hl 5 rfl) ?_
  refine lv_iconst (v := 4) hx hb dL_law_445 (by decide) ?_
  refine lv_iadd hx hb dL_law_446 ?_
  refine w_top (y := 4) (by decide) ?_
  refine va_sld hx hb hX hbl hbA hS (vp_in_nI (n := 4) (N := 6) (by decide) (by decide)) dL_law_447 ?_
  refine w_top (y := xs 4) rfl ?_
  refine lv_aload_n hx hb dL_law_448 rfl (lv_at hl 3 rfl) ?_
  have hPc := hP.sub (ws' := [(to, .inr (12, [.ref (u0 0), .ref (u0 1), .ref (u0 2), .ref (u0 3), .ref (u0 4), .ref (u0 5), .int 0, .int 0, .int 0])), ((u0 0), .inl (k 3, 4, .inr (.inr (.inr (.inr (fun i => some (u0 (6 + i)))))))), ((u0 1), .inr (2, [.int 0, .ref e0, .int 0])), ((u0 2), .inr (2, [.int 0, .ref e0, .int 0])), ((u0 3), .inr (2, [.int 0, .ref e0, .int 0])), ((u0 6), .inr (4, [.ref (u0 10), .ref (u0 14), .int 0, .int 0, .int 0])), ((u0 10), .inl (k 0, 768, .inl (fun _ => 0))), ((u0 14), .inr (8, [.ref (u0 18), .int 1, .ref (u0 22)])), ((u0 18), .inl (k 1, 768, .inr (.inl (fun _ => 0)))), ((u0 7), .inr (4, [.ref (u0 11), .ref (u0 15), .int 0, .int 0, .int 0])), ((u0 11), .inl (k 0, 768, .inl (fun _ => 0))), ((u0 15), .inr (8, [.ref (u0 19), .int 1, .ref (u0 23)])), ((u0 19), .inl (k 1, 768, .inr (.inl (fun _ => 0)))), ((u0 8), .inr (4, [.ref (u0 12), .ref (u0 16), .int 0, .int 0, .int 0])), ((u0 12), .inl (k 0, 768, .inl (fun _ => 0))), ((u0 16), .inr (8, [.ref (u0 20), .int 1, .ref (u0 24)])), ((u0 20), .inl (k 1, 768, .inr (.inl (fun _ => 0)))), ((u0 9), .inr (4, [.ref (u0 13), .ref (u0 17), .int 0, .int 0, .int 0])), ((u0 13), .inl (k 0, 768, .inl (fun _ => 0))), ((u0 17), .inr (8, [.ref (u0 21), .int 1, .ref (u0 25)])), ((u0 21), .inl (k 1, 768, .inr (.inl (fun _ => 0)))), (o, .inl (k 1, 1, .inr (.inl (fun _ => 0))))]) [0, 1, 2, 3, 4, 5, 6, 7, 8, 9, 10, 11, 12, 13, 14, 15, 16, 17, 18, 19, 20, 29] rfl
  have hDc := hD.sub (ws' := [(to, .inr (12, [.ref (u0 0), .ref (u0 1), .ref (u0 2), .ref (u0 3), .ref (u0 4), .ref (u0 5), .int 0, .int 0, .int 0])), ((u0 0), .inl (k 3, 4, .inr (.inr (.inr (.inr (fun i => some (u0 (6 + i)))))))), ((u0 1), .inr (2, [.int 0, .ref e0, .int 0])), ((u0 2), .inr (2, [.int 0, .ref e0, .int 0])), ((u0 3), .inr (2, [.int 0, .ref e0, .int 0])), ((u0 6), .inr (4, [.ref (u0 10), .ref (u0 14), .int 0, .int 0, .int 0])), ((u0 10), .inl (k 0, 768, .inl (fun _ => 0))), ((u0 14), .inr (8, [.ref (u0 18), .int 1, .ref (u0 22)])), ((u0 18), .inl (k 1, 768, .inr (.inl (fun _ => 0)))), ((u0 7), .inr (4, [.ref (u0 11), .ref (u0 15), .int 0, .int 0, .int 0])), ((u0 11), .inl (k 0, 768, .inl (fun _ => 0))), ((u0 15), .inr (8, [.ref (u0 19), .int 1, .ref (u0 23)])), ((u0 19), .inl (k 1, 768, .inr (.inl (fun _ => 0)))), ((u0 8), .inr (4, [.ref (u0 12), .ref (u0 16), .int 0, .int 0, .int 0])), ((u0 12), .inl (k 0, 768, .inl (fun _ => 0))), ((u0 16), .inr (8, [.ref (u0 20), .int 1, .ref (u0 24)])), ((u0 20), .inl (k 1, 768, .inr (.inl (fun _ => 0)))), ((u0 9), .inr (4, [.ref (u0 13), .ref (u0 17), .int 0, .int 0, .int 0])), ((u0 13), .inl (k 0, 768, .inl (fun _ => 0))), ((u0 17), .inr (8, [.ref (u0 21), .int 1, .ref (u0 25)])), ((u0 21), .inl (k 1, 768, .inr (.inl (fun _ => 0)))), (o, .inl (k 1, 1, .inr (.inl (fun _ => 0))))]) [0, 1, 2, 3, 4, 5, 6, 7, 8, 9, 10, 11, 12, 13, 14, 15, 16, 17, 18, 19, 20, 29] (by decide) rfl
  have hFc := va_free (wc := [(to, .inr (12, [.ref (u0 0), .ref (u0 1), .ref (u0 2), .ref (u0 3), .ref (u0 4), .ref (u0 5), .int 0, .int 0, .int 0])), ((u0 0), .inl (k 3, 4, .inr (.inr (.inr (.inr (fun i => some (u0 (6 + i)))))))), ((u0 1), .inr (2, [.int 0, .ref e0, .int 0])), ((u0 2), .inr (2, [.int 0, .ref e0, .int 0])), ((u0 3), .inr (2, [.int 0, .ref e0, .int 0])), ((u0 6), .inr (4, [.ref (u0 10), .ref (u0 14), .int 0, .int 0, .int 0])), ((u0 10), .inl (k 0, 768, .inl (fun _ => 0))), ((u0 14), .inr (8, [.ref (u0 18), .int 1, .ref (u0 22)])), ((u0 18), .inl (k 1, 768, .inr (.inl (fun _ => 0)))), ((u0 7), .inr (4, [.ref (u0 11), .ref (u0 15), .int 0, .int 0, .int 0])), ((u0 11), .inl (k 0, 768, .inl (fun _ => 0))), ((u0 15), .inr (8, [.ref (u0 19), .int 1, .ref (u0 23)])), ((u0 19), .inl (k 1, 768, .inr (.inl (fun _ => 0)))), ((u0 8), .inr (4, [.ref (u0 12), .ref (u0 16), .int 0, .int 0, .int 0])), ((u0 12), .inl (k 0, 768, .inl (fun _ => 0))), ((u0 16), .inr (8, [.ref (u0 20), .int 1, .ref (u0 24)])), ((u0 20), .inl (k 1, 768, .inr (.inl (fun _ => 0)))), ((u0 9), .inr (4, [.ref (u0 13), .ref (u0 17), .int 0, .int 0, .int 0])), ((u0 13), .inl (k 0, 768, .inl (fun _ => 0))), ((u0 17), .inr (8, [.ref (u0 21), .int 1, .ref (u0 25)])), ((u0 21), .inl (k 1, 768, .inr (.inl (fun _ => 0)))), (o, .inl (k 1, 1, .inr (.inl (fun _ => 0))))]) hD hS hA [0, 1, 2, 3, 4, 5, 6, 7, 8, 9, 10, 11, 12, 13, 14, 15, 16, 17, 18, 19, 20, 29] rfl
  refine va_calli (vx_runSW (As := [.ref to, .int (((xs 1).toUInt32 % 65536).toInt32), .int (xs 2), .int (xs 3), .int (xs 4), .ref o]) (rest := []) ⟨hx, hb, hml, hown, hts⟩ (k_L_addRule l hst D k e0 H.size to o u0 (fun _ => 0) (((xs 1).toUInt32 % 65536).toInt32) (xs 2) (xs 3) (xs 4) (pk_nc (xs 1)) (pk_fc (xs 1))) (vx_cwSW 6 hts gL_law_L_addRule rfl rfl rfl (by decide +kernel) ⟨Nat.le_of_ble_eq_true rfl, Nat.le_of_ble_eq_true rfl⟩) ⟨lPc_fb, lPc_go hC hNc hHf hS hPc hDc hFc⟩ rfl rfl hl.1 rfl (lv_room (Nat.le_of_ble_eq_true rfl)) dL_law_449 ⟨Nat.le_of_ble_eq_true rfl, Nat.le_of_ble_eq_true rfl⟩) hS (fun q9 _ h9 => hFc q9 h9) hFc (fun rL uL t H locs ht hvm hwL hB hz1 hk1 hS => ?_)
  obtain ⟨hP1, hD1⟩ := hB
  rw [ht] at hP1
  obtain ⟨hP, hD⟩ := va_join (wr := [(mo, .inr (13, [.int 0, .ref (w0 0), .int 0, .ref (w0 1), .int 0, .int 0, .ref (w0 2), .int 0, .ref (w0 3), .ref (w0 4), .int 0])), ((w0 0), .inl (k 5, 3, .inr (.inr (.inr (.inr (fun i => some (w0 (5 + i)))))))), ((w0 5), .inl (k 0, 768, .inl (fun _ => 0))), ((w0 6), .inl (k 0, 768, .inl (fun _ => 0))), ((w0 7), .inl (k 0, 768, .inl (fun _ => 0))), ((w0 1), .inl (k 6, 8, .inr (.inr (.inr (.inr (fun _ => none)))))), ((w0 2), .inl (k 6, 20, .inr (.inr (.inr (.inr (fun _ => none)))))), ((w0 4), .inl (k 6, 6, .inr (.inr (.inr (.inr (fun _ => none)))))), (od, .inl (k 8, 1, .inr (.inr (.inr (.inl (fun _ => 0))))))]) (w1 := [(o, .inl (k 1, 1, .inr (.inl uL)))]) hP hD [0, 1, 2, 3, 4, 5, 6, 7, 8, 9, 10, 11, 12, 13, 14, 15, 16, 17, 18, 19, 20, 29] [21, 22, 23, 24, 25, 26, 27, 28, 30] rfl rfl (by decide) (by decide) hk1 hFc hP1 hD1
  have hP : va_P D vwCl [(mo, .inr (13, [.int 0, .ref (w0 0), .int 0, .ref (w0 1), .int 0, .int 0, .ref (w0 2), .int 0, .ref (w0 3), .ref (w0 4), .int 0])), ((w0 0), .inl (k 5, 3, .inr (.inr (.inr (.inr (fun i => some (w0 (5 + i)))))))), ((w0 5), .inl (k 0, 768, .inl (fun _ => 0))), ((w0 6), .inl (k 0, 768, .inl (fun _ => 0))), ((w0 7), .inl (k 0, 768, .inl (fun _ => 0))), ((w0 1), .inl (k 6, 8, .inr (.inr (.inr (.inr (fun _ => none)))))), ((w0 2), .inl (k 6, 20, .inr (.inr (.inr (.inr (fun _ => none)))))), ((w0 4), .inl (k 6, 6, .inr (.inr (.inr (.inr (fun _ => none)))))), (od, .inl (k 8, 1, .inr (.inr (.inr (.inl (fun _ => 0)))))), (o, .inl (k 1, 1, .inr (.inl uL)))] H := hP
  have hD : va_D A [(mo, .inr (13, [.int 0, .ref (w0 0), .int 0, .ref (w0 1), .int 0, .int 0, .ref (w0 2), .int 0, .ref (w0 3), .ref (w0 4), .int 0])), ((w0 0), .inl (k 5, 3, .inr (.inr (.inr (.inr (fun i => some (w0 (5 + i)))))))), ((w0 5), .inl (k 0, 768, .inl (fun _ => 0))), ((w0 6), .inl (k 0, 768, .inl (fun _ => 0))), ((w0 7), .inl (k 0, 768, .inl (fun _ => 0))), ((w0 1), .inl (k 6, 8, .inr (.inr (.inr (.inr (fun _ => none)))))), ((w0 2), .inl (k 6, 20, .inr (.inr (.inr (.inr (fun _ => none)))))), ((w0 4), .inl (k 6, 6, .inr (.inr (.inr (.inr (fun _ => none)))))), (od, .inl (k 8, 1, .inr (.inr (.inr (.inl (fun _ => 0)))))), (o, .inl (k 1, 1, .inr (.inl uL)))] := hD
  rcases hwL with ⟨hok, rfl, hfL⟩ | ⟨hok, rfl⟩
  · refine lv_istore (lv' := [(6, .int 0), (0, .ref b), (1, .ref to), (2, .ref mo), (3, .ref o), (4, .ref od), (5, .int 0)]) hx hb dL_law_452 hl (by decide) rfl (fun ls hl => ?_)
    refine lv_aload_n hx hb dL_law_454 rfl (lv_at hl 3 rfl) ?_
    refine lv_aload_n hx hb dL_law_455 rfl (lv_at hl 1 rfl) ?_
    refine lv_iload hx hb dL_law_456 (lv_at hl 6 rfl) ?_
    refine lv_iconst (v := 1) hx hb dL_law_458 (by decide) ?_
    refine lv_iadd hx hb dL_law_459 ?_
    refine w_top (y := 1) (by decide) ?_
    refine va_sld hx hb hX hbl hbA hS (vp_in_nI (n := 1) (N := 6) (by decide) (by decide)) dL_law_460 ?_
    refine w_top (y := xs 1) rfl ?_
    refine lv_i2c (v := ((xs 1).toUInt32 % 65536).toInt32) hx hb dL_law_461 rfl ?_
    refine lv_aload_n hx hb dL_law_462 rfl (lv_at hl 1 rfl) ?_
    refine lv_iload hx hb dL_law_463 (lv_at hl 6 rfl) ?_
    refine lv_iconst (v := 2) hx hb dL_law_465 (by decide) ?_
    refine lv_iadd hx hb dL_law_466 ?_
    refine w_top (y := 2) (by decide) ?_
    refine va_sld hx hb hX hbl hbA hS (vp_in_nI (n := 2) (N := 6) (by decide) (by decide)) dL_law_467 ?_
    refine w_top (y := xs 2) rfl ?_
    refine lv_aload_n hx hb dL_law_468 rfl (lv_at hl 1 rfl) ?_
    refine lv_iload hx hb dL_law_469 (lv_at hl 6 rfl) ?_
    refine lv_iconst (v := 3) hx hb dL_law_471 (by decide) ?_
    refine lv_iadd hx hb dL_law_472 ?_
    refine w_top (y := 3) (by decide) ?_
    refine va_sld hx hb hX hbl hbA hS (vp_in_nI (n := 3) (N := 6) (by decide) (by decide)) dL_law_473 ?_
    refine w_top (y := xs 3) rfl ?_
    refine lv_aload_n hx hb dL_law_474 rfl (lv_at hl 1 rfl) ?_
    refine lv_iload hx hb dL_law_475 (lv_at hl 6 rfl) ?_
    refine lv_iconst (v := 4) hx hb dL_law_477 (by decide) ?_
    refine lv_iadd hx hb dL_law_478 ?_
    refine w_top (y := 4) (by decide) ?_
    refine va_sld hx hb hX hbl hbA hS (vp_in_nI (n := 4) (N := 6) (by decide) (by decide)) dL_law_479 ?_
    refine w_top (y := xs 4) rfl ?_
    have hPc := hP.sub (ws' := [(mo, .inr (13, [.int 0, .ref (w0 0), .int 0, .ref (w0 1), .int 0, .int 0, .ref (w0 2), .int 0, .ref (w0 3), .ref (w0 4), .int 0])), ((w0 0), .inl (k 5, 3, .inr (.inr (.inr (.inr (fun i => some (w0 (5 + i)))))))), ((w0 5), .inl (k 0, 768, .inl (fun _ => 0))), ((w0 6), .inl (k 0, 768, .inl (fun _ => 0))), ((w0 7), .inl (k 0, 768, .inl (fun _ => 0))), ((w0 1), .inl (k 6, 8, .inr (.inr (.inr (.inr (fun _ => none)))))), ((w0 2), .inl (k 6, 20, .inr (.inr (.inr (.inr (fun _ => none)))))), ((w0 4), .inl (k 6, 6, .inr (.inr (.inr (.inr (fun _ => none))))))]) [0, 1, 2, 3, 4, 5, 6, 7] rfl
    have hDc := hD.sub (ws' := [(mo, .inr (13, [.int 0, .ref (w0 0), .int 0, .ref (w0 1), .int 0, .int 0, .ref (w0 2), .int 0, .ref (w0 3), .ref (w0 4), .int 0])), ((w0 0), .inl (k 5, 3, .inr (.inr (.inr (.inr (fun i => some (w0 (5 + i)))))))), ((w0 5), .inl (k 0, 768, .inl (fun _ => 0))), ((w0 6), .inl (k 0, 768, .inl (fun _ => 0))), ((w0 7), .inl (k 0, 768, .inl (fun _ => 0))), ((w0 1), .inl (k 6, 8, .inr (.inr (.inr (.inr (fun _ => none)))))), ((w0 2), .inl (k 6, 20, .inr (.inr (.inr (.inr (fun _ => none)))))), ((w0 4), .inl (k 6, 6, .inr (.inr (.inr (.inr (fun _ => none))))))]) [0, 1, 2, 3, 4, 5, 6, 7] (by decide) rfl
    have hFc := va_free (wc := [(mo, .inr (13, [.int 0, .ref (w0 0), .int 0, .ref (w0 1), .int 0, .int 0, .ref (w0 2), .int 0, .ref (w0 3), .ref (w0 4), .int 0])), ((w0 0), .inl (k 5, 3, .inr (.inr (.inr (.inr (fun i => some (w0 (5 + i)))))))), ((w0 5), .inl (k 0, 768, .inl (fun _ => 0))), ((w0 6), .inl (k 0, 768, .inl (fun _ => 0))), ((w0 7), .inl (k 0, 768, .inl (fun _ => 0))), ((w0 1), .inl (k 6, 8, .inr (.inr (.inr (.inr (fun _ => none)))))), ((w0 2), .inl (k 6, 20, .inr (.inr (.inr (.inr (fun _ => none)))))), ((w0 4), .inl (k 6, 6, .inr (.inr (.inr (.inr (fun _ => none))))))]) hD hS hA [0, 1, 2, 3, 4, 5, 6, 7] rfl
    refine va_calli (va_runV (As := [.int (((xs 1).toUInt32 % 65536).toInt32), .int (xs 2), .int (xs 3), .int (xs 4)]) (rest := []) ⟨hx, hb, hml, hown, hts⟩ (k_X12_addRule l D k e0 H.size mo w0 (((xs 1).toUInt32 % 65536).toInt32) (xs 2) (xs 3) (xs 4)) (cwV 4 hts gL_law_X12_addRule rfl rfl rfl (by decide +kernel) ⟨Nat.le_of_ble_eq_true rfl, Nat.le_of_ble_eq_true rfl⟩) ⟨mPc_fb, va_recv hC.1 hPc (ci := 13) (q0 := 0) rfl rfl, mPc_go hC hHf hS hPc hDc hFc⟩ rfl rfl hl.1 rfl (lv_room (Nat.le_of_ble_eq_true rfl)) dL_law_480 ⟨Nat.le_of_ble_eq_true rfl, Nat.le_of_ble_eq_true rfl⟩) hS (fun q9 _ h9 => hFc q9 h9) hFc (fun r2 u1 t H locs ht hvm hw_r2 hB hz1 hk1 hS => ?_)
    obtain ⟨hP1, hD1⟩ := hB
    rw [ht] at hP1
    obtain ⟨hP, hD⟩ := va_join (wr := [(od, .inl (k 8, 1, .inr (.inr (.inr (.inl (fun _ => 0)))))), (o, .inl (k 1, 1, .inr (.inl uL)))]) (w1 := [(mo, .inr (13, u1))]) hP hD [0, 1, 2, 3, 4, 5, 6, 7] [8, 9] rfl rfl (by decide) (by decide) hk1 hFc hP1 hD1
    have hP : va_P D vwCl [(od, .inl (k 8, 1, .inr (.inr (.inr (.inl (fun _ => 0)))))), (o, .inl (k 1, 1, .inr (.inl uL))), (mo, .inr (13, u1))] H := hP
    have hD : va_D A [(od, .inl (k 8, 1, .inr (.inr (.inr (.inl (fun _ => 0)))))), (o, .inl (k 1, 1, .inr (.inl uL))), (mo, .inr (13, u1))] := hD
    obtain ⟨hth, rfl⟩ : u1[0]? = some (.int 0) ∧ r2 = 0 := by rcases hw_r2 with ⟨_, z1, z2⟩ | ⟨z1, _⟩; exact ⟨z1, z2⟩; exact absurd hok z1
    refine lv_istore (lv' := [(7, .int 0), (6, .int 0), (0, .ref b), (1, .ref to), (2, .ref mo), (3, .ref o), (4, .ref od), (5, .int 0)]) hx hb dL_law_483 hl (by decide) rfl (fun ls hl => ?_)
    refine lv_aload_n hx hb dL_law_485 rfl (lv_at hl 4 rfl) ?_
    refine pz_i (va_runV (As := []) (rest := []) ⟨hx, hb, hml, hown, hts⟩ (k_X12_thrown l D k H mo u1 0 (hP.sub [2] rfl) hth) (cwV 0 hts gL_law_X12_thrown rfl rfl rfl (by decide +kernel) ⟨Nat.le_of_ble_eq_true rfl, Nat.le_of_ble_eq_true rfl⟩) ⟨pPc_fb, va_recv hC.1 hP (ci := 13) (q0 := 2) rfl rfl, pPc_go hC⟩ rfl rfl hl.1 rfl (lv_room (Nat.le_of_ble_eq_true rfl)) dL_law_486 ⟨Nat.le_of_ble_eq_true rfl, Nat.le_of_ble_eq_true rfl⟩) hS (fun r4 locs hw_r4 hS => ?_)
    subst hw_r4
    refine lv_iload hx hb dL_law_489 (lv_at hl 1 rfl) ?_
    refine lv_icmp_eq (tgt := 496) hx hb dL_law_491 (by decide) (fun c_491 => ?_) (fun c_491 => absurd (by decide) c_491)
    refine lv_iload hx hb dL_law_496 (lv_at hl 1 rfl) ?_
    refine lv_if_ne (tgt := 513) hx hb dL_law_498 (by decide) (fun c_498 => absurd c_498 (by decide)) (fun c_498 => ?_)
    refine lv_aload_n hx hb dL_law_501 rfl (lv_at hl 5 rfl) ?_
    refine lv_iconst (v := 0) hx hb dL_law_502 (by decide) ?_
    refine va_lald hx hb hC.1 hP 1 1 rfl rfl (vp_in_nI (n := 0) (N := 1) (by decide) (by decide)) dL_law_503 ?_
    refine w_topl (y := 0) hfL ?_
    refine lv_iload hx hb dL_law_504 (lv_at hl 0 rfl) ?_
    refine lv_i2l (v := 0) hx hb dL_law_506 (by decide) ?_
    refine W.lcmp hx hb dL_law_507 ?_
    refine w_top (y := 0) (by decide) ?_
    refine lv_if_eq (tgt := 513) hx hb dL_law_508 (by decide) (fun c_508 => ?_) (fun c_508 => absurd (by decide) c_508)
    refine lv_goto (tgt := 2046) hx hb dL_law_513 (by decide) ?_
    refine W.widen (k := 100000) (n := 1000000) (Nat.le_of_ble_eq_true rfl) (Nat.le_of_ble_eq_true rfl) ?_
    exact law_end ⟨hx, hb, hr, hml, hown, hts0, hX, hbl, hlocks, hgv⟩ hAs hS (lv_sub hl [2, 7] rfl)
  · refine lv_istore (lv' := [(6, .int 1), (0, .ref b), (1, .ref to), (2, .ref mo), (3, .ref o), (4, .ref od), (5, .int 0)]) hx hb dL_law_452 hl (by decide) rfl (fun ls hl => ?_)
    refine lv_aload_n hx hb dL_law_454 rfl (lv_at hl 3 rfl) ?_
    refine lv_aload_n hx hb dL_law_455 rfl (lv_at hl 1 rfl) ?_
    refine lv_iload hx hb dL_law_456 (lv_at hl 6 rfl) ?_
    refine lv_iconst (v := 1) hx hb dL_law_458 (by decide) ?_
    refine lv_iadd hx hb dL_law_459 ?_
    refine w_top (y := 1) (by decide) ?_
    refine va_sld hx hb hX hbl hbA hS (vp_in_nI (n := 1) (N := 6) (by decide) (by decide)) dL_law_460 ?_
    refine w_top (y := xs 1) rfl ?_
    refine lv_i2c (v := ((xs 1).toUInt32 % 65536).toInt32) hx hb dL_law_461 rfl ?_
    refine lv_aload_n hx hb dL_law_462 rfl (lv_at hl 1 rfl) ?_
    refine lv_iload hx hb dL_law_463 (lv_at hl 6 rfl) ?_
    refine lv_iconst (v := 2) hx hb dL_law_465 (by decide) ?_
    refine lv_iadd hx hb dL_law_466 ?_
    refine w_top (y := 2) (by decide) ?_
    refine va_sld hx hb hX hbl hbA hS (vp_in_nI (n := 2) (N := 6) (by decide) (by decide)) dL_law_467 ?_
    refine w_top (y := xs 2) rfl ?_
    refine lv_aload_n hx hb dL_law_468 rfl (lv_at hl 1 rfl) ?_
    refine lv_iload hx hb dL_law_469 (lv_at hl 6 rfl) ?_
    refine lv_iconst (v := 3) hx hb dL_law_471 (by decide) ?_
    refine lv_iadd hx hb dL_law_472 ?_
    refine w_top (y := 3) (by decide) ?_
    refine va_sld hx hb hX hbl hbA hS (vp_in_nI (n := 3) (N := 6) (by decide) (by decide)) dL_law_473 ?_
    refine w_top (y := xs 3) rfl ?_
    refine lv_aload_n hx hb dL_law_474 rfl (lv_at hl 1 rfl) ?_
    refine lv_iload hx hb dL_law_475 (lv_at hl 6 rfl) ?_
    refine lv_iconst (v := 4) hx hb dL_law_477 (by decide) ?_
    refine lv_iadd hx hb dL_law_478 ?_
    refine w_top (y := 4) (by decide) ?_
    refine va_sld hx hb hX hbl hbA hS (vp_in_nI (n := 4) (N := 6) (by decide) (by decide)) dL_law_479 ?_
    refine w_top (y := xs 4) rfl ?_
    have hPc := hP.sub (ws' := [(mo, .inr (13, [.int 0, .ref (w0 0), .int 0, .ref (w0 1), .int 0, .int 0, .ref (w0 2), .int 0, .ref (w0 3), .ref (w0 4), .int 0])), ((w0 0), .inl (k 5, 3, .inr (.inr (.inr (.inr (fun i => some (w0 (5 + i)))))))), ((w0 5), .inl (k 0, 768, .inl (fun _ => 0))), ((w0 6), .inl (k 0, 768, .inl (fun _ => 0))), ((w0 7), .inl (k 0, 768, .inl (fun _ => 0))), ((w0 1), .inl (k 6, 8, .inr (.inr (.inr (.inr (fun _ => none)))))), ((w0 2), .inl (k 6, 20, .inr (.inr (.inr (.inr (fun _ => none)))))), ((w0 4), .inl (k 6, 6, .inr (.inr (.inr (.inr (fun _ => none))))))]) [0, 1, 2, 3, 4, 5, 6, 7] rfl
    have hDc := hD.sub (ws' := [(mo, .inr (13, [.int 0, .ref (w0 0), .int 0, .ref (w0 1), .int 0, .int 0, .ref (w0 2), .int 0, .ref (w0 3), .ref (w0 4), .int 0])), ((w0 0), .inl (k 5, 3, .inr (.inr (.inr (.inr (fun i => some (w0 (5 + i)))))))), ((w0 5), .inl (k 0, 768, .inl (fun _ => 0))), ((w0 6), .inl (k 0, 768, .inl (fun _ => 0))), ((w0 7), .inl (k 0, 768, .inl (fun _ => 0))), ((w0 1), .inl (k 6, 8, .inr (.inr (.inr (.inr (fun _ => none)))))), ((w0 2), .inl (k 6, 20, .inr (.inr (.inr (.inr (fun _ => none)))))), ((w0 4), .inl (k 6, 6, .inr (.inr (.inr (.inr (fun _ => none))))))]) [0, 1, 2, 3, 4, 5, 6, 7] (by decide) rfl
    have hFc := va_free (wc := [(mo, .inr (13, [.int 0, .ref (w0 0), .int 0, .ref (w0 1), .int 0, .int 0, .ref (w0 2), .int 0, .ref (w0 3), .ref (w0 4), .int 0])), ((w0 0), .inl (k 5, 3, .inr (.inr (.inr (.inr (fun i => some (w0 (5 + i)))))))), ((w0 5), .inl (k 0, 768, .inl (fun _ => 0))), ((w0 6), .inl (k 0, 768, .inl (fun _ => 0))), ((w0 7), .inl (k 0, 768, .inl (fun _ => 0))), ((w0 1), .inl (k 6, 8, .inr (.inr (.inr (.inr (fun _ => none)))))), ((w0 2), .inl (k 6, 20, .inr (.inr (.inr (.inr (fun _ => none)))))), ((w0 4), .inl (k 6, 6, .inr (.inr (.inr (.inr (fun _ => none))))))]) hD hS hA [0, 1, 2, 3, 4, 5, 6, 7] rfl
    refine va_calli (va_runV (As := [.int (((xs 1).toUInt32 % 65536).toInt32), .int (xs 2), .int (xs 3), .int (xs 4)]) (rest := []) ⟨hx, hb, hml, hown, hts⟩ (k_X12_addRule l D k e0 H.size mo w0 (((xs 1).toUInt32 % 65536).toInt32) (xs 2) (xs 3) (xs 4)) (cwV 4 hts gL_law_X12_addRule rfl rfl rfl (by decide +kernel) ⟨Nat.le_of_ble_eq_true rfl, Nat.le_of_ble_eq_true rfl⟩) ⟨mPc_fb, va_recv hC.1 hPc (ci := 13) (q0 := 0) rfl rfl, mPc_go hC hHf hS hPc hDc hFc⟩ rfl rfl hl.1 rfl (lv_room (Nat.le_of_ble_eq_true rfl)) dL_law_480 ⟨Nat.le_of_ble_eq_true rfl, Nat.le_of_ble_eq_true rfl⟩) hS (fun q9 _ h9 => hFc q9 h9) hFc (fun r6 u5 t H locs ht hvm hw_r6 hB hz1 hk1 hS => ?_)
    obtain ⟨hP1, hD1⟩ := hB
    rw [ht] at hP1
    obtain ⟨hP, hD⟩ := va_join (wr := [(od, .inl (k 8, 1, .inr (.inr (.inr (.inl (fun _ => 0)))))), (o, .inl (k 1, 1, .inr (.inl uL)))]) (w1 := [(mo, .inr (13, u5))]) hP hD [0, 1, 2, 3, 4, 5, 6, 7] [8, 9] rfl rfl (by decide) (by decide) hk1 hFc hP1 hD1
    have hP : va_P D vwCl [(od, .inl (k 8, 1, .inr (.inr (.inr (.inl (fun _ => 0)))))), (o, .inl (k 1, 1, .inr (.inl uL))), (mo, .inr (13, u5))] H := hP
    have hD : va_D A [(od, .inl (k 8, 1, .inr (.inr (.inr (.inl (fun _ => 0)))))), (o, .inl (k 1, 1, .inr (.inl uL))), (mo, .inr (13, u5))] := hD
    have hth : u5[0]? = some (.int 1) := by rcases hw_r6 with ⟨z1, _⟩ | ⟨_, z1⟩; exact absurd z1 hok; exact z1
    refine lv_istore (lv' := [(7, .int r6), (6, .int 1), (0, .ref b), (1, .ref to), (2, .ref mo), (3, .ref o), (4, .ref od), (5, .int 0)]) hx hb dL_law_483 hl (by decide) rfl (fun ls hl => ?_)
    refine lv_aload_n hx hb dL_law_485 rfl (lv_at hl 4 rfl) ?_
    refine pz_i (va_runV (As := []) (rest := []) ⟨hx, hb, hml, hown, hts⟩ (k_X12_thrown l D k H mo u5 1 (hP.sub [2] rfl) hth) (cwV 0 hts gL_law_X12_thrown rfl rfl rfl (by decide +kernel) ⟨Nat.le_of_ble_eq_true rfl, Nat.le_of_ble_eq_true rfl⟩) ⟨pPc_fb, va_recv hC.1 hP (ci := 13) (q0 := 2) rfl rfl, pPc_go hC⟩ rfl rfl hl.1 rfl (lv_room (Nat.le_of_ble_eq_true rfl)) dL_law_486 ⟨Nat.le_of_ble_eq_true rfl, Nat.le_of_ble_eq_true rfl⟩) hS (fun r8 locs hw_r8 hS => ?_)
    subst hw_r8
    refine lv_iload hx hb dL_law_489 (lv_at hl 1 rfl) ?_
    refine lv_icmp_eq (tgt := 496) hx hb dL_law_491 (by decide) (fun c_491 => ?_) (fun c_491 => absurd (by decide) c_491)
    refine lv_iload hx hb dL_law_496 (lv_at hl 1 rfl) ?_
    refine lv_if_ne (tgt := 513) hx hb dL_law_498 (by decide) (fun c_498 => ?_) (fun c_498 => absurd c_498 (by decide))
    refine lv_goto (tgt := 2046) hx hb dL_law_513 (by decide) ?_
    refine W.widen (k := 100000) (n := 1000000) (Nat.le_of_ble_eq_true rfl) (Nat.le_of_ble_eq_true rfl) ?_
    exact law_end ⟨hx, hb, hr, hml, hown, hts0, hX, hbl, hlocks, hgv⟩ hAs hS (lv_sub hl [2, 7] rfl)

set_option maxHeartbeats 4000000 in
set_option maxRecDepth 100000 in
theorem law_c4 {p : Program} {l : Launch} {e : Env} {s : State} {m : MethodId} {below : List Frame} {meth : Method} {c : Code} {b : Nat} {xs : Nat → Int32} (hst : l.stackTraces = false) (C0 : lw_At p s m meth c b 6 xs) {D : va_G} {k : Nat → ClassId} {e0 to mo o od : Nat} {u0 w0 : Nat → Nat} {A : Nat → Prop} (hA : ∀ q, s.heap.size ≤ q → A q) (hAs : ∀ q, A q → s.heap.size ≤ q) (hC : wCx D k s) (hNc : wNc s) (hHf : wHf e0 A s s.heap) {H : Heap} {locs : List Loc} {ls : Array Slot} (hP : va_P D vwCl (wL k to mo o od e0 u0 w0) H) (hD : va_D A (wL k to mo o od e0 u0 w0)) (hS : va_S A s.heap H locs) (hl : lv_has ls 9 [(0, .ref b), (1, .ref to), (2, .ref mo), (3, .ref o), (4, .ref od), (5, .int 0)]) : W p l e room_1 s m #[Value.ref b] below meth c H locs 100 20000 (lw_Z below #[Value.ref b] s) (F0 m 516 ls []) := by
  obtain ⟨hx, hb, hr, hml, hown, hts0, hX, hbl, hlocks, hgv⟩ := C0
  have hts : ∀ w ∈ wsL_law, w.before #[Value.ref b] s = true := fun w h => hts0 w (wsL_law_in w h)
  have hbA : ¬ A b := fun h9 => absurd (hAs b h9) (Nat.not_le.mpr hbl)
  refine lv_aload_n hx hb dL_law_516 rfl (lv_at hl 1 rfl) ?_
  have hPc := hP.sub (ws' := [(to, .inr (12, [.ref (u0 0), .ref (u0 1), .ref (u0 2), .ref (u0 3), .ref (u0 4), .ref (u0 5), .int 0, .int 0, .int 0])), ((u0 0), .inl (k 3, 4, .inr (.inr (.inr (.inr (fun i => some (u0 (6 + i)))))))), ((u0 1), .inr (2, [.int 0, .ref e0, .int 0])), ((u0 2), .inr (2, [.int 0, .ref e0, .int 0])), ((u0 3), .inr (2, [.int 0, .ref e0, .int 0])), ((u0 6), .inr (4, [.ref (u0 10), .ref (u0 14), .int 0, .int 0, .int 0])), ((u0 10), .inl (k 0, 768, .inl (fun _ => 0))), ((u0 14), .inr (8, [.ref (u0 18), .int 1, .ref (u0 22)])), ((u0 18), .inl (k 1, 768, .inr (.inl (fun _ => 0)))), ((u0 7), .inr (4, [.ref (u0 11), .ref (u0 15), .int 0, .int 0, .int 0])), ((u0 11), .inl (k 0, 768, .inl (fun _ => 0))), ((u0 15), .inr (8, [.ref (u0 19), .int 1, .ref (u0 23)])), ((u0 19), .inl (k 1, 768, .inr (.inl (fun _ => 0)))), ((u0 8), .inr (4, [.ref (u0 12), .ref (u0 16), .int 0, .int 0, .int 0])), ((u0 12), .inl (k 0, 768, .inl (fun _ => 0))), ((u0 16), .inr (8, [.ref (u0 20), .int 1, .ref (u0 24)])), ((u0 20), .inl (k 1, 768, .inr (.inl (fun _ => 0)))), ((u0 9), .inr (4, [.ref (u0 13), .ref (u0 17), .int 0, .int 0, .int 0])), ((u0 13), .inl (k 0, 768, .inl (fun _ => 0))), ((u0 17), .inr (8, [.ref (u0 21), .int 1, .ref (u0 25)])), ((u0 21), .inl (k 1, 768, .inr (.inl (fun _ => 0))))]) [0, 1, 2, 3, 4, 5, 6, 7, 8, 9, 10, 11, 12, 13, 14, 15, 16, 17, 18, 19, 20] rfl
  have hDc := hD.sub (ws' := [(to, .inr (12, [.ref (u0 0), .ref (u0 1), .ref (u0 2), .ref (u0 3), .ref (u0 4), .ref (u0 5), .int 0, .int 0, .int 0])), ((u0 0), .inl (k 3, 4, .inr (.inr (.inr (.inr (fun i => some (u0 (6 + i)))))))), ((u0 1), .inr (2, [.int 0, .ref e0, .int 0])), ((u0 2), .inr (2, [.int 0, .ref e0, .int 0])), ((u0 3), .inr (2, [.int 0, .ref e0, .int 0])), ((u0 6), .inr (4, [.ref (u0 10), .ref (u0 14), .int 0, .int 0, .int 0])), ((u0 10), .inl (k 0, 768, .inl (fun _ => 0))), ((u0 14), .inr (8, [.ref (u0 18), .int 1, .ref (u0 22)])), ((u0 18), .inl (k 1, 768, .inr (.inl (fun _ => 0)))), ((u0 7), .inr (4, [.ref (u0 11), .ref (u0 15), .int 0, .int 0, .int 0])), ((u0 11), .inl (k 0, 768, .inl (fun _ => 0))), ((u0 15), .inr (8, [.ref (u0 19), .int 1, .ref (u0 23)])), ((u0 19), .inl (k 1, 768, .inr (.inl (fun _ => 0)))), ((u0 8), .inr (4, [.ref (u0 12), .ref (u0 16), .int 0, .int 0, .int 0])), ((u0 12), .inl (k 0, 768, .inl (fun _ => 0))), ((u0 16), .inr (8, [.ref (u0 20), .int 1, .ref (u0 24)])), ((u0 20), .inl (k 1, 768, .inr (.inl (fun _ => 0)))), ((u0 9), .inr (4, [.ref (u0 13), .ref (u0 17), .int 0, .int 0, .int 0])), ((u0 13), .inl (k 0, 768, .inl (fun _ => 0))), ((u0 17), .inr (8, [.ref (u0 21), .int 1, .ref (u0 25)])), ((u0 21), .inl (k 1, 768, .inr (.inl (fun _ => 0))))]) [0, 1, 2, 3, 4, 5, 6, 7, 8, 9, 10, 11, 12, 13, 14, 15, 16, 17, 18, 19, 20] (by decide) rfl
  have hFc := va_free (wc := [(to, .inr (12, [.ref (u0 0), .ref (u0 1), .ref (u0 2), .ref (u0 3), .ref (u0 4), .ref (u0 5), .int 0, .int 0, .int 0])), ((u0 0), .inl (k 3, 4, .inr (.inr (.inr (.inr (fun i => some (u0 (6 + i)))))))), ((u0 1), .inr (2, [.int 0, .ref e0, .int 0])), ((u0 2), .inr (2, [.int 0, .ref e0, .int 0])), ((u0 3), .inr (2, [.int 0, .ref e0, .int 0])), ((u0 6), .inr (4, [.ref (u0 10), .ref (u0 14), .int 0, .int 0, .int 0])), ((u0 10), .inl (k 0, 768, .inl (fun _ => 0))), ((u0 14), .inr (8, [.ref (u0 18), .int 1, .ref (u0 22)])), ((u0 18), .inl (k 1, 768, .inr (.inl (fun _ => 0)))), ((u0 7), .inr (4, [.ref (u0 11), .ref (u0 15), .int 0, .int 0, .int 0])), ((u0 11), .inl (k 0, 768, .inl (fun _ => 0))), ((u0 15), .inr (8, [.ref (u0 19), .int 1, .ref (u0 23)])), ((u0 19), .inl (k 1, 768, .inr (.inl (fun _ => 0)))), ((u0 8), .inr (4, [.ref (u0 12), .ref (u0 16), .int 0, .int 0, .int 0])), ((u0 12), .inl (k 0, 768, .inl (fun _ => 0))), ((u0 16), .inr (8, [.ref (u0 20), .int 1, .ref (u0 24)])), ((u0 20), .inl (k 1, 768, .inr (.inl (fun _ => 0)))), ((u0 9), .inr (4, [.ref (u0 13), .ref (u0 17), .int 0, .int 0, .int 0])), ((u0 13), .inl (k 0, 768, .inl (fun _ => 0))), ((u0 17), .inr (8, [.ref (u0 21), .int 1, .ref (u0 25)])), ((u0 21), .inl (k 1, 768, .inr (.inl (fun _ => 0))))]) hD hS hA [0, 1, 2, 3, 4, 5, 6, 7, 8, 9, 10, 11, 12, 13, 14, 15, 16, 17, 18, 19, 20] rfl
  refine va_calli (va_runV (As := []) (rest := []) ⟨hx, hb, hml, hown, hts⟩ (k_X11_clearRules l D k e0 H.size to u0) (cwV 0 hts gL_law_X11_clearRules rfl rfl rfl (by decide +kernel) ⟨Nat.le_of_ble_eq_true rfl, Nat.le_of_ble_eq_true rfl⟩) ⟨mPc_fb, va_recv hC.1 hPc (ci := 12) (q0 := 0) rfl rfl, mPc_go hC hHf hS hPc hDc hFc⟩ rfl rfl hl.1 rfl (lv_room (Nat.le_of_ble_eq_true rfl)) dL_law_517 ⟨Nat.le_of_ble_eq_true rfl, Nat.le_of_ble_eq_true rfl⟩) hS (fun q9 _ h9 => hFc q9 h9) hFc (fun r2 u1 t H locs ht hvm hw_r2 hB hz1 hk1 hS => ?_)
  obtain ⟨hP, hD⟩ := va_join (wr := [(mo, .inr (13, [.int 0, .ref (w0 0), .int 0, .ref (w0 1), .int 0, .int 0, .ref (w0 2), .int 0, .ref (w0 3), .ref (w0 4), .int 0])), ((w0 0), .inl (k 5, 3, .inr (.inr (.inr (.inr (fun i => some (w0 (5 + i)))))))), ((w0 5), .inl (k 0, 768, .inl (fun _ => 0))), ((w0 6), .inl (k 0, 768, .inl (fun _ => 0))), ((w0 7), .inl (k 0, 768, .inl (fun _ => 0))), ((w0 1), .inl (k 6, 8, .inr (.inr (.inr (.inr (fun _ => none)))))), ((w0 2), .inl (k 6, 20, .inr (.inr (.inr (.inr (fun _ => none)))))), ((w0 4), .inl (k 6, 6, .inr (.inr (.inr (.inr (fun _ => none)))))), (o, .inl (k 1, 1, .inr (.inl (fun _ => 0)))), (od, .inl (k 8, 1, .inr (.inr (.inr (.inl (fun _ => 0))))))]) (w1 := []) hP hD [0, 1, 2, 3, 4, 5, 6, 7, 8, 9, 10, 11, 12, 13, 14, 15, 16, 17, 18, 19, 20] [21, 22, 23, 24, 25, 26, 27, 28, 29, 30] rfl rfl (by decide) (by decide) hk1 hFc w_nilP w_nilD
  have hP : va_P D vwCl [(mo, .inr (13, [.int 0, .ref (w0 0), .int 0, .ref (w0 1), .int 0, .int 0, .ref (w0 2), .int 0, .ref (w0 3), .ref (w0 4), .int 0])), ((w0 0), .inl (k 5, 3, .inr (.inr (.inr (.inr (fun i => some (w0 (5 + i)))))))), ((w0 5), .inl (k 0, 768, .inl (fun _ => 0))), ((w0 6), .inl (k 0, 768, .inl (fun _ => 0))), ((w0 7), .inl (k 0, 768, .inl (fun _ => 0))), ((w0 1), .inl (k 6, 8, .inr (.inr (.inr (.inr (fun _ => none)))))), ((w0 2), .inl (k 6, 20, .inr (.inr (.inr (.inr (fun _ => none)))))), ((w0 4), .inl (k 6, 6, .inr (.inr (.inr (.inr (fun _ => none)))))), (o, .inl (k 1, 1, .inr (.inl (fun _ => 0)))), (od, .inl (k 8, 1, .inr (.inr (.inr (.inl (fun _ => 0))))))] H := hP
  have hD : va_D A [(mo, .inr (13, [.int 0, .ref (w0 0), .int 0, .ref (w0 1), .int 0, .int 0, .ref (w0 2), .int 0, .ref (w0 3), .ref (w0 4), .int 0])), ((w0 0), .inl (k 5, 3, .inr (.inr (.inr (.inr (fun i => some (w0 (5 + i)))))))), ((w0 5), .inl (k 0, 768, .inl (fun _ => 0))), ((w0 6), .inl (k 0, 768, .inl (fun _ => 0))), ((w0 7), .inl (k 0, 768, .inl (fun _ => 0))), ((w0 1), .inl (k 6, 8, .inr (.inr (.inr (.inr (fun _ => none)))))), ((w0 2), .inl (k 6, 20, .inr (.inr (.inr (.inr (fun _ => none)))))), ((w0 4), .inl (k 6, 6, .inr (.inr (.inr (.inr (fun _ => none)))))), (o, .inl (k 1, 1, .inr (.inl (fun _ => 0)))), (od, .inl (k 8, 1, .inr (.inr (.inr (.inl (fun _ => 0))))))] := hD
  subst hw_r2
  refine lv_aload_n hx hb dL_law_520 rfl (lv_at hl 2 rfl) ?_
  have hPc := hP.sub (ws' := [(mo, .inr (13, [.int 0, .ref (w0 0), .int 0, .ref (w0 1), .int 0, .int 0, .ref (w0 2), .int 0, .ref (w0 3), .ref (w0 4), .int 0])), ((w0 0), .inl (k 5, 3, .inr (.inr (.inr (.inr (fun i => some (w0 (5 + i)))))))), ((w0 5), .inl (k 0, 768, .inl (fun _ => 0))), ((w0 6), .inl (k 0, 768, .inl (fun _ => 0))), ((w0 7), .inl (k 0, 768, .inl (fun _ => 0))), ((w0 1), .inl (k 6, 8, .inr (.inr (.inr (.inr (fun _ => none)))))), ((w0 2), .inl (k 6, 20, .inr (.inr (.inr (.inr (fun _ => none)))))), ((w0 4), .inl (k 6, 6, .inr (.inr (.inr (.inr (fun _ => none))))))]) [0, 1, 2, 3, 4, 5, 6, 7] rfl
  have hDc := hD.sub (ws' := [(mo, .inr (13, [.int 0, .ref (w0 0), .int 0, .ref (w0 1), .int 0, .int 0, .ref (w0 2), .int 0, .ref (w0 3), .ref (w0 4), .int 0])), ((w0 0), .inl (k 5, 3, .inr (.inr (.inr (.inr (fun i => some (w0 (5 + i)))))))), ((w0 5), .inl (k 0, 768, .inl (fun _ => 0))), ((w0 6), .inl (k 0, 768, .inl (fun _ => 0))), ((w0 7), .inl (k 0, 768, .inl (fun _ => 0))), ((w0 1), .inl (k 6, 8, .inr (.inr (.inr (.inr (fun _ => none)))))), ((w0 2), .inl (k 6, 20, .inr (.inr (.inr (.inr (fun _ => none)))))), ((w0 4), .inl (k 6, 6, .inr (.inr (.inr (.inr (fun _ => none))))))]) [0, 1, 2, 3, 4, 5, 6, 7] (by decide) rfl
  have hFc := va_free (wc := [(mo, .inr (13, [.int 0, .ref (w0 0), .int 0, .ref (w0 1), .int 0, .int 0, .ref (w0 2), .int 0, .ref (w0 3), .ref (w0 4), .int 0])), ((w0 0), .inl (k 5, 3, .inr (.inr (.inr (.inr (fun i => some (w0 (5 + i)))))))), ((w0 5), .inl (k 0, 768, .inl (fun _ => 0))), ((w0 6), .inl (k 0, 768, .inl (fun _ => 0))), ((w0 7), .inl (k 0, 768, .inl (fun _ => 0))), ((w0 1), .inl (k 6, 8, .inr (.inr (.inr (.inr (fun _ => none)))))), ((w0 2), .inl (k 6, 20, .inr (.inr (.inr (.inr (fun _ => none)))))), ((w0 4), .inl (k 6, 6, .inr (.inr (.inr (.inr (fun _ => none))))))]) hD hS hA [0, 1, 2, 3, 4, 5, 6, 7] rfl
  refine va_calli (va_runV (As := []) (rest := [.int 0]) ⟨hx, hb, hml, hown, hts⟩ (k_X12_clearRules l D k e0 H.size mo w0) (cwV 0 hts gL_law_X12_clearRules rfl rfl rfl (by decide +kernel) ⟨Nat.le_of_ble_eq_true rfl, Nat.le_of_ble_eq_true rfl⟩) ⟨mPc_fb, va_recv hC.1 hPc (ci := 13) (q0 := 0) rfl rfl, mPc_go hC hHf hS hPc hDc hFc⟩ rfl rfl hl.1 rfl (lv_room (Nat.le_of_ble_eq_true rfl)) dL_law_521 ⟨Nat.le_of_ble_eq_true rfl, Nat.le_of_ble_eq_true rfl⟩) hS (fun q9 _ h9 => hFc q9 h9) hFc (fun r5 u4 t H locs ht hvm hw_r5 hB hz1 hk1 hS => ?_)
  obtain ⟨hP1, hD1⟩ := hB
  rw [ht] at hP1
  obtain ⟨hP, hD⟩ := va_join (wr := [(o, .inl (k 1, 1, .inr (.inl (fun _ => 0)))), (od, .inl (k 8, 1, .inr (.inr (.inr (.inl (fun _ => 0))))))]) (w1 := [(mo, .inr (13, u4))]) hP hD [0, 1, 2, 3, 4, 5, 6, 7] [8, 9] rfl rfl (by decide) (by decide) hk1 hFc hP1 hD1
  have hP : va_P D vwCl [(o, .inl (k 1, 1, .inr (.inl (fun _ => 0)))), (od, .inl (k 8, 1, .inr (.inr (.inr (.inl (fun _ => 0)))))), (mo, .inr (13, u4))] H := hP
  have hD : va_D A [(o, .inl (k 1, 1, .inr (.inl (fun _ => 0)))), (od, .inl (k 8, 1, .inr (.inr (.inr (.inl (fun _ => 0)))))), (mo, .inr (13, u4))] := hD
  obtain ⟨hth, rfl⟩ := hw_r5
  refine lv_icmp_eq (tgt := 2046) hx hb dL_law_524 (by decide) (fun c_524 => ?_) (fun c_524 => absurd (by decide) c_524)
  refine W.widen (k := 100000) (n := 1000000) (Nat.le_of_ble_eq_true rfl) (Nat.le_of_ble_eq_true rfl) ?_
  exact law_end ⟨hx, hb, hr, hml, hown, hts0, hX, hbl, hlocks, hgv⟩ hAs hS (lv_sub hl [0, 5] rfl)

set_option maxHeartbeats 4000000 in
set_option maxRecDepth 100000 in
theorem law_c5 {p : Program} {l : Launch} {e : Env} {s : State} {m : MethodId} {below : List Frame} {meth : Method} {c : Code} {b : Nat} {xs : Nat → Int32} (hst : l.stackTraces = false) (C0 : lw_At p s m meth c b 6 xs) {D : va_G} {k : Nat → ClassId} {e0 to mo o od : Nat} {u0 w0 : Nat → Nat} {A : Nat → Prop} (hA : ∀ q, s.heap.size ≤ q → A q) (hAs : ∀ q, A q → s.heap.size ≤ q) (hC : wCx D k s) (hNc : wNc s) (hHf : wHf e0 A s s.heap) {H : Heap} {locs : List Loc} {ls : Array Slot} (hP : va_P D vwCl (wL k to mo o od e0 u0 w0) H) (hD : va_D A (wL k to mo o od e0 u0 w0)) (hS : va_S A s.heap H locs) (hl : lv_has ls 9 [(0, .ref b), (1, .ref to), (2, .ref mo), (3, .ref o), (4, .ref od), (5, .int 0)]) : W p l e room_1 s m #[Value.ref b] below meth c H locs 100 20000 (lw_Z below #[Value.ref b] s) (F0 m 529 ls []) := by
  obtain ⟨hx, hb, hr, hml, hown, hts0, hX, hbl, hlocks, hgv⟩ := C0
  have hts : ∀ w ∈ wsL_law, w.before #[Value.ref b] s = true := fun w h => hts0 w (wsL_law_in w h)
  have hbA : ¬ A b := fun h9 => absurd (hAs b h9) (Nat.not_le.mpr hbl)
  refine lv_aload_n hx hb dL_law_529 rfl (lv_at hl 1 rfl) ?_
  refine lv_aload_n hx hb dL_law_530 rfl (lv_at hl 0 rfl) ?_
  refine lv_iload hx hb dL_law_531 (lv_at hl 5 rfl) ?_
  refine lv_iconst (v := 1) hx hb dL_law_533 (by decide) ?_
  refine lv_iadd hx hb dL_law_534 ?_
  refine w_top (y := 1) (by decide) ?_
  refine va_sld hx hb hX hbl hbA hS (vp_in_nI (n := 1) (N := 6) (by decide) (by decide)) dL_law_535 ?_
  refine w_top (y := xs 1) rfl ?_
  refine lv_aload_n hx hb dL_law_536 rfl (lv_at hl 0 rfl) ?_
  refine lv_iload hx hb dL_law_537 (lv_at hl 5 rfl) ?_
  refine lv_iconst (v := 2) hx hb dL_law_539 (by decide) ?_
  refine lv_iadd hx hb dL_law_540 ?_
  refine w_top (y := 2) (by decide) ?_
  refine va_sld hx hb hX hbl hbA hS (vp_in_nI (n := 2) (N := 6) (by decide) (by decide)) dL_law_541 ?_
  refine w_top (y := xs 2) rfl ?_
  refine lv_aload_n hx hb dL_law_542 rfl (lv_at hl 0 rfl) ?_
  refine lv_iload hx hb dL_law_543 (lv_at hl 5 rfl) ?_
  refine lv_iconst (v := 3) hx hb dL_law_545 (by decide) ?_
  refine lv_iadd hx hb dL_law_546 ?_
  refine w_top (y := 3) (by decide) ?_
  refine va_sld hx hb hX hbl hbA hS (vp_in_nI (n := 3) (N := 6) (by decide) (by decide)) dL_law_547 ?_
  refine w_top (y := xs 3) rfl ?_
  refine lv_aload_n hx hb dL_law_548 rfl (lv_at hl 0 rfl) ?_
  refine lv_iload hx hb dL_law_549 (lv_at hl 5 rfl) ?_
  refine lv_iconst (v := 4) hx hb dL_law_551 (by decide) ?_
  refine lv_iadd hx hb dL_law_552 ?_
  refine w_top (y := 4) (by decide) ?_
  refine va_sld hx hb hX hbl hbA hS (vp_in_nI (n := 4) (N := 6) (by decide) (by decide)) dL_law_553 ?_
  refine w_top (y := xs 4) rfl ?_
  refine lv_aload_n hx hb dL_law_554 rfl (lv_at hl 3 rfl) ?_
  have hPc := hP.sub (ws' := [(to, .inr (12, [.ref (u0 0), .ref (u0 1), .ref (u0 2), .ref (u0 3), .ref (u0 4), .ref (u0 5), .int 0, .int 0, .int 0])), ((u0 0), .inl (k 3, 4, .inr (.inr (.inr (.inr (fun i => some (u0 (6 + i)))))))), ((u0 1), .inr (2, [.int 0, .ref e0, .int 0])), ((u0 2), .inr (2, [.int 0, .ref e0, .int 0])), ((u0 3), .inr (2, [.int 0, .ref e0, .int 0])), ((u0 6), .inr (4, [.ref (u0 10), .ref (u0 14), .int 0, .int 0, .int 0])), ((u0 10), .inl (k 0, 768, .inl (fun _ => 0))), ((u0 14), .inr (8, [.ref (u0 18), .int 1, .ref (u0 22)])), ((u0 18), .inl (k 1, 768, .inr (.inl (fun _ => 0)))), ((u0 7), .inr (4, [.ref (u0 11), .ref (u0 15), .int 0, .int 0, .int 0])), ((u0 11), .inl (k 0, 768, .inl (fun _ => 0))), ((u0 15), .inr (8, [.ref (u0 19), .int 1, .ref (u0 23)])), ((u0 19), .inl (k 1, 768, .inr (.inl (fun _ => 0)))), ((u0 8), .inr (4, [.ref (u0 12), .ref (u0 16), .int 0, .int 0, .int 0])), ((u0 12), .inl (k 0, 768, .inl (fun _ => 0))), ((u0 16), .inr (8, [.ref (u0 20), .int 1, .ref (u0 24)])), ((u0 20), .inl (k 1, 768, .inr (.inl (fun _ => 0)))), ((u0 9), .inr (4, [.ref (u0 13), .ref (u0 17), .int 0, .int 0, .int 0])), ((u0 13), .inl (k 0, 768, .inl (fun _ => 0))), ((u0 17), .inr (8, [.ref (u0 21), .int 1, .ref (u0 25)])), ((u0 21), .inl (k 1, 768, .inr (.inl (fun _ => 0)))), (o, .inl (k 1, 1, .inr (.inl (fun _ => 0))))]) [0, 1, 2, 3, 4, 5, 6, 7, 8, 9, 10, 11, 12, 13, 14, 15, 16, 17, 18, 19, 20, 29] rfl
  have hDc := hD.sub (ws' := [(to, .inr (12, [.ref (u0 0), .ref (u0 1), .ref (u0 2), .ref (u0 3), .ref (u0 4), .ref (u0 5), .int 0, .int 0, .int 0])), ((u0 0), .inl (k 3, 4, .inr (.inr (.inr (.inr (fun i => some (u0 (6 + i)))))))), ((u0 1), .inr (2, [.int 0, .ref e0, .int 0])), ((u0 2), .inr (2, [.int 0, .ref e0, .int 0])), ((u0 3), .inr (2, [.int 0, .ref e0, .int 0])), ((u0 6), .inr (4, [.ref (u0 10), .ref (u0 14), .int 0, .int 0, .int 0])), ((u0 10), .inl (k 0, 768, .inl (fun _ => 0))), ((u0 14), .inr (8, [.ref (u0 18), .int 1, .ref (u0 22)])), ((u0 18), .inl (k 1, 768, .inr (.inl (fun _ => 0)))), ((u0 7), .inr (4, [.ref (u0 11), .ref (u0 15), .int 0, .int 0, .int 0])), ((u0 11), .inl (k 0, 768, .inl (fun _ => 0))), ((u0 15), .inr (8, [.ref (u0 19), .int 1, .ref (u0 23)])), ((u0 19), .inl (k 1, 768, .inr (.inl (fun _ => 0)))), ((u0 8), .inr (4, [.ref (u0 12), .ref (u0 16), .int 0, .int 0, .int 0])), ((u0 12), .inl (k 0, 768, .inl (fun _ => 0))), ((u0 16), .inr (8, [.ref (u0 20), .int 1, .ref (u0 24)])), ((u0 20), .inl (k 1, 768, .inr (.inl (fun _ => 0)))), ((u0 9), .inr (4, [.ref (u0 13), .ref (u0 17), .int 0, .int 0, .int 0])), ((u0 13), .inl (k 0, 768, .inl (fun _ => 0))), ((u0 17), .inr (8, [.ref (u0 21), .int 1, .ref (u0 25)])), ((u0 21), .inl (k 1, 768, .inr (.inl (fun _ => 0)))), (o, .inl (k 1, 1, .inr (.inl (fun _ => 0))))]) [0, 1, 2, 3, 4, 5, 6, 7, 8, 9, 10, 11, 12, 13, 14, 15, 16, 17, 18, 19, 20, 29] (by decide) rfl
  have hFc := va_free (wc := [(to, .inr (12, [.ref (u0 0), .ref (u0 1), .ref (u0 2), .ref (u0 3), .ref (u0 4), .ref (u0 5), .int 0, .int 0, .int 0])), ((u0 0), .inl (k 3, 4, .inr (.inr (.inr (.inr (fun i => some (u0 (6 + i)))))))), ((u0 1), .inr (2, [.int 0, .ref e0, .int 0])), ((u0 2), .inr (2, [.int 0, .ref e0, .int 0])), ((u0 3), .inr (2, [.int 0, .ref e0, .int 0])), ((u0 6), .inr (4, [.ref (u0 10), .ref (u0 14), .int 0, .int 0, .int 0])), ((u0 10), .inl (k 0, 768, .inl (fun _ => 0))), ((u0 14), .inr (8, [.ref (u0 18), .int 1, .ref (u0 22)])), ((u0 18), .inl (k 1, 768, .inr (.inl (fun _ => 0)))), ((u0 7), .inr (4, [.ref (u0 11), .ref (u0 15), .int 0, .int 0, .int 0])), ((u0 11), .inl (k 0, 768, .inl (fun _ => 0))), ((u0 15), .inr (8, [.ref (u0 19), .int 1, .ref (u0 23)])), ((u0 19), .inl (k 1, 768, .inr (.inl (fun _ => 0)))), ((u0 8), .inr (4, [.ref (u0 12), .ref (u0 16), .int 0, .int 0, .int 0])), ((u0 12), .inl (k 0, 768, .inl (fun _ => 0))), ((u0 16), .inr (8, [.ref (u0 20), .int 1, .ref (u0 24)])), ((u0 20), .inl (k 1, 768, .inr (.inl (fun _ => 0)))), ((u0 9), .inr (4, [.ref (u0 13), .ref (u0 17), .int 0, .int 0, .int 0])), ((u0 13), .inl (k 0, 768, .inl (fun _ => 0))), ((u0 17), .inr (8, [.ref (u0 21), .int 1, .ref (u0 25)])), ((u0 21), .inl (k 1, 768, .inr (.inl (fun _ => 0)))), (o, .inl (k 1, 1, .inr (.inl (fun _ => 0))))]) hD hS hA [0, 1, 2, 3, 4, 5, 6, 7, 8, 9, 10, 11, 12, 13, 14, 15, 16, 17, 18, 19, 20, 29] rfl
  refine va_calli (vx_runSW (As := [.ref to, .int (xs 1), .int (xs 2), .int (xs 3), .int (xs 4), .ref o]) (rest := []) ⟨hx, hb, hml, hown, hts⟩ (k_L_entails l hst D k e0 H.size to o u0 (fun _ => 0) (xs 1) (xs 2) (xs 3) (xs 4)) (vx_cwSW 6 hts gL_law_L_entails rfl rfl rfl (by decide +kernel) ⟨Nat.le_of_ble_eq_true rfl, Nat.le_of_ble_eq_true rfl⟩) ⟨lPc_fb, lPc_go hC hNc hHf hS hPc hDc hFc⟩ rfl rfl hl.1 rfl (lv_room (Nat.le_of_ble_eq_true rfl)) dL_law_555 ⟨Nat.le_of_ble_eq_true rfl, Nat.le_of_ble_eq_true rfl⟩) hS (fun q9 _ h9 => hFc q9 h9) hFc (fun rL uL t H locs ht hvm hwL hB hz1 hk1 hS => ?_)
  obtain ⟨hP1, hD1⟩ := hB
  rw [ht] at hP1
  obtain ⟨hP, hD⟩ := va_join (wr := [(mo, .inr (13, [.int 0, .ref (w0 0), .int 0, .ref (w0 1), .int 0, .int 0, .ref (w0 2), .int 0, .ref (w0 3), .ref (w0 4), .int 0])), ((w0 0), .inl (k 5, 3, .inr (.inr (.inr (.inr (fun i => some (w0 (5 + i)))))))), ((w0 5), .inl (k 0, 768, .inl (fun _ => 0))), ((w0 6), .inl (k 0, 768, .inl (fun _ => 0))), ((w0 7), .inl (k 0, 768, .inl (fun _ => 0))), ((w0 1), .inl (k 6, 8, .inr (.inr (.inr (.inr (fun _ => none)))))), ((w0 2), .inl (k 6, 20, .inr (.inr (.inr (.inr (fun _ => none)))))), ((w0 4), .inl (k 6, 6, .inr (.inr (.inr (.inr (fun _ => none)))))), (od, .inl (k 8, 1, .inr (.inr (.inr (.inl (fun _ => 0))))))]) (w1 := [(o, .inl (k 1, 1, .inr (.inl uL)))]) hP hD [0, 1, 2, 3, 4, 5, 6, 7, 8, 9, 10, 11, 12, 13, 14, 15, 16, 17, 18, 19, 20, 29] [21, 22, 23, 24, 25, 26, 27, 28, 30] rfl rfl (by decide) (by decide) hk1 hFc hP1 hD1
  have hP : va_P D vwCl [(mo, .inr (13, [.int 0, .ref (w0 0), .int 0, .ref (w0 1), .int 0, .int 0, .ref (w0 2), .int 0, .ref (w0 3), .ref (w0 4), .int 0])), ((w0 0), .inl (k 5, 3, .inr (.inr (.inr (.inr (fun i => some (w0 (5 + i)))))))), ((w0 5), .inl (k 0, 768, .inl (fun _ => 0))), ((w0 6), .inl (k 0, 768, .inl (fun _ => 0))), ((w0 7), .inl (k 0, 768, .inl (fun _ => 0))), ((w0 1), .inl (k 6, 8, .inr (.inr (.inr (.inr (fun _ => none)))))), ((w0 2), .inl (k 6, 20, .inr (.inr (.inr (.inr (fun _ => none)))))), ((w0 4), .inl (k 6, 6, .inr (.inr (.inr (.inr (fun _ => none)))))), (od, .inl (k 8, 1, .inr (.inr (.inr (.inl (fun _ => 0)))))), (o, .inl (k 1, 1, .inr (.inl uL)))] H := hP
  have hD : va_D A [(mo, .inr (13, [.int 0, .ref (w0 0), .int 0, .ref (w0 1), .int 0, .int 0, .ref (w0 2), .int 0, .ref (w0 3), .ref (w0 4), .int 0])), ((w0 0), .inl (k 5, 3, .inr (.inr (.inr (.inr (fun i => some (w0 (5 + i)))))))), ((w0 5), .inl (k 0, 768, .inl (fun _ => 0))), ((w0 6), .inl (k 0, 768, .inl (fun _ => 0))), ((w0 7), .inl (k 0, 768, .inl (fun _ => 0))), ((w0 1), .inl (k 6, 8, .inr (.inr (.inr (.inr (fun _ => none)))))), ((w0 2), .inl (k 6, 20, .inr (.inr (.inr (.inr (fun _ => none)))))), ((w0 4), .inl (k 6, 6, .inr (.inr (.inr (.inr (fun _ => none)))))), (od, .inl (k 8, 1, .inr (.inr (.inr (.inl (fun _ => 0)))))), (o, .inl (k 1, 1, .inr (.inl uL)))] := hD
  rcases hwL with ⟨hok, rfl, hfL⟩ | ⟨hok, rfl⟩
  · refine lv_istore (lv' := [(6, .int 0), (0, .ref b), (1, .ref to), (2, .ref mo), (3, .ref o), (4, .ref od), (5, .int 0)]) hx hb dL_law_558 hl (by decide) rfl (fun ls hl => ?_)
    refine lv_aload_n hx hb dL_law_560 rfl (lv_at hl 3 rfl) ?_
    refine lv_aload_n hx hb dL_law_561 rfl (lv_at hl 1 rfl) ?_
    refine lv_iload hx hb dL_law_562 (lv_at hl 6 rfl) ?_
    refine lv_iconst (v := 1) hx hb dL_law_564 (by decide) ?_
    refine lv_iadd hx hb dL_law_565 ?_
    refine w_top (y := 1) (by decide) ?_
    refine va_sld hx hb hX hbl hbA hS (vp_in_nI (n := 1) (N := 6) (by decide) (by decide)) dL_law_566 ?_
    refine w_top (y := xs 1) rfl ?_
    refine lv_aload_n hx hb dL_law_567 rfl (lv_at hl 1 rfl) ?_
    refine lv_iload hx hb dL_law_568 (lv_at hl 6 rfl) ?_
    refine lv_iconst (v := 2) hx hb dL_law_570 (by decide) ?_
    refine lv_iadd hx hb dL_law_571 ?_
    refine w_top (y := 2) (by decide) ?_
    refine va_sld hx hb hX hbl hbA hS (vp_in_nI (n := 2) (N := 6) (by decide) (by decide)) dL_law_572 ?_
    refine w_top (y := xs 2) rfl ?_
    refine lv_aload_n hx hb dL_law_573 rfl (lv_at hl 1 rfl) ?_
    refine lv_iload hx hb dL_law_574 (lv_at hl 6 rfl) ?_
    refine lv_iconst (v := 3) hx hb dL_law_576 (by decide) ?_
    refine lv_iadd hx hb dL_law_577 ?_
    refine w_top (y := 3) (by decide) ?_
    refine va_sld hx hb hX hbl hbA hS (vp_in_nI (n := 3) (N := 6) (by decide) (by decide)) dL_law_578 ?_
    refine w_top (y := xs 3) rfl ?_
    refine lv_aload_n hx hb dL_law_579 rfl (lv_at hl 1 rfl) ?_
    refine lv_iload hx hb dL_law_580 (lv_at hl 6 rfl) ?_
    refine lv_iconst (v := 4) hx hb dL_law_582 (by decide) ?_
    refine lv_iadd hx hb dL_law_583 ?_
    refine w_top (y := 4) (by decide) ?_
    refine va_sld hx hb hX hbl hbA hS (vp_in_nI (n := 4) (N := 6) (by decide) (by decide)) dL_law_584 ?_
    refine w_top (y := xs 4) rfl ?_
    have hPc := hP.sub (ws' := [(mo, .inr (13, [.int 0, .ref (w0 0), .int 0, .ref (w0 1), .int 0, .int 0, .ref (w0 2), .int 0, .ref (w0 3), .ref (w0 4), .int 0])), ((w0 0), .inl (k 5, 3, .inr (.inr (.inr (.inr (fun i => some (w0 (5 + i)))))))), ((w0 5), .inl (k 0, 768, .inl (fun _ => 0))), ((w0 6), .inl (k 0, 768, .inl (fun _ => 0))), ((w0 7), .inl (k 0, 768, .inl (fun _ => 0))), ((w0 1), .inl (k 6, 8, .inr (.inr (.inr (.inr (fun _ => none)))))), ((w0 2), .inl (k 6, 20, .inr (.inr (.inr (.inr (fun _ => none)))))), ((w0 4), .inl (k 6, 6, .inr (.inr (.inr (.inr (fun _ => none))))))]) [0, 1, 2, 3, 4, 5, 6, 7] rfl
    have hDc := hD.sub (ws' := [(mo, .inr (13, [.int 0, .ref (w0 0), .int 0, .ref (w0 1), .int 0, .int 0, .ref (w0 2), .int 0, .ref (w0 3), .ref (w0 4), .int 0])), ((w0 0), .inl (k 5, 3, .inr (.inr (.inr (.inr (fun i => some (w0 (5 + i)))))))), ((w0 5), .inl (k 0, 768, .inl (fun _ => 0))), ((w0 6), .inl (k 0, 768, .inl (fun _ => 0))), ((w0 7), .inl (k 0, 768, .inl (fun _ => 0))), ((w0 1), .inl (k 6, 8, .inr (.inr (.inr (.inr (fun _ => none)))))), ((w0 2), .inl (k 6, 20, .inr (.inr (.inr (.inr (fun _ => none)))))), ((w0 4), .inl (k 6, 6, .inr (.inr (.inr (.inr (fun _ => none))))))]) [0, 1, 2, 3, 4, 5, 6, 7] (by decide) rfl
    have hFc := va_free (wc := [(mo, .inr (13, [.int 0, .ref (w0 0), .int 0, .ref (w0 1), .int 0, .int 0, .ref (w0 2), .int 0, .ref (w0 3), .ref (w0 4), .int 0])), ((w0 0), .inl (k 5, 3, .inr (.inr (.inr (.inr (fun i => some (w0 (5 + i)))))))), ((w0 5), .inl (k 0, 768, .inl (fun _ => 0))), ((w0 6), .inl (k 0, 768, .inl (fun _ => 0))), ((w0 7), .inl (k 0, 768, .inl (fun _ => 0))), ((w0 1), .inl (k 6, 8, .inr (.inr (.inr (.inr (fun _ => none)))))), ((w0 2), .inl (k 6, 20, .inr (.inr (.inr (.inr (fun _ => none)))))), ((w0 4), .inl (k 6, 6, .inr (.inr (.inr (.inr (fun _ => none))))))]) hD hS hA [0, 1, 2, 3, 4, 5, 6, 7] rfl
    refine va_calli (va_runV (As := [.int (xs 1), .int (xs 2), .int (xs 3), .int (xs 4)]) (rest := []) ⟨hx, hb, hml, hown, hts⟩ (k_X12_entails l D k e0 H.size mo w0 (xs 1) (xs 2) (xs 3) (xs 4)) (cwV 4 hts gL_law_X12_entails rfl rfl rfl (by decide +kernel) ⟨Nat.le_of_ble_eq_true rfl, Nat.le_of_ble_eq_true rfl⟩) ⟨mPc_fb, va_recv hC.1 hPc (ci := 13) (q0 := 0) rfl rfl, mPc_go hC hHf hS hPc hDc hFc⟩ rfl rfl hl.1 rfl (lv_room (Nat.le_of_ble_eq_true rfl)) dL_law_585 ⟨Nat.le_of_ble_eq_true rfl, Nat.le_of_ble_eq_true rfl⟩) hS (fun q9 _ h9 => hFc q9 h9) hFc (fun r2 u1 t H locs ht hvm hw_r2 hB hz1 hk1 hS => ?_)
    obtain ⟨hP1, hD1⟩ := hB
    rw [ht] at hP1
    obtain ⟨hP, hD⟩ := va_join (wr := [(od, .inl (k 8, 1, .inr (.inr (.inr (.inl (fun _ => 0)))))), (o, .inl (k 1, 1, .inr (.inl uL)))]) (w1 := [(mo, .inr (13, u1))]) hP hD [0, 1, 2, 3, 4, 5, 6, 7] [8, 9] rfl rfl (by decide) (by decide) hk1 hFc hP1 hD1
    have hP : va_P D vwCl [(od, .inl (k 8, 1, .inr (.inr (.inr (.inl (fun _ => 0)))))), (o, .inl (k 1, 1, .inr (.inl uL))), (mo, .inr (13, u1))] H := hP
    have hD : va_D A [(od, .inl (k 8, 1, .inr (.inr (.inr (.inl (fun _ => 0)))))), (o, .inl (k 1, 1, .inr (.inl uL))), (mo, .inr (13, u1))] := hD
    obtain ⟨hth, rfl⟩ : u1[0]? = some (.int 0) ∧ r2 = 0 := by rcases hw_r2 with ⟨_, z1, z2⟩ | ⟨z1, _⟩; exact ⟨z1, z2⟩; exact absurd hok z1
    refine lv_istore (lv' := [(7, .int 0), (6, .int 0), (0, .ref b), (1, .ref to), (2, .ref mo), (3, .ref o), (4, .ref od), (5, .int 0)]) hx hb dL_law_588 hl (by decide) rfl (fun ls hl => ?_)
    refine lv_aload_n hx hb dL_law_590 rfl (lv_at hl 4 rfl) ?_
    refine pz_i (va_runV (As := []) (rest := []) ⟨hx, hb, hml, hown, hts⟩ (k_X12_thrown l D k H mo u1 0 (hP.sub [2] rfl) hth) (cwV 0 hts gL_law_X12_thrown rfl rfl rfl (by decide +kernel) ⟨Nat.le_of_ble_eq_true rfl, Nat.le_of_ble_eq_true rfl⟩) ⟨pPc_fb, va_recv hC.1 hP (ci := 13) (q0 := 2) rfl rfl, pPc_go hC⟩ rfl rfl hl.1 rfl (lv_room (Nat.le_of_ble_eq_true rfl)) dL_law_591 ⟨Nat.le_of_ble_eq_true rfl, Nat.le_of_ble_eq_true rfl⟩) hS (fun r4 locs hw_r4 hS => ?_)
    subst hw_r4
    refine lv_iload hx hb dL_law_594 (lv_at hl 1 rfl) ?_
    refine lv_icmp_eq (tgt := 601) hx hb dL_law_596 (by decide) (fun c_596 => ?_) (fun c_596 => absurd (by decide) c_596)
    refine lv_iload hx hb dL_law_601 (lv_at hl 1 rfl) ?_
    refine lv_if_ne (tgt := 625) hx hb dL_law_603 (by decide) (fun c_603 => absurd c_603 (by decide)) (fun c_603 => ?_)
    refine lv_aload_n hx hb dL_law_606 rfl (lv_at hl 5 rfl) ?_
    refine lv_iconst (v := 0) hx hb dL_law_607 (by decide) ?_
    refine va_lald hx hb hC.1 hP 1 1 rfl rfl (vp_in_nI (n := 0) (N := 1) (by decide) (by decide)) dL_law_608 ?_
    refine w_topl (y := 0) hfL ?_
    refine lv_iload hx hb dL_law_609 (lv_at hl 0 rfl) ?_
    refine lv_if_eq (tgt := 618) hx hb dL_law_611 (by decide) (fun c_611 => ?_) (fun c_611 => absurd (by decide) c_611)
    refine lv_lconst (v := 0) hx hb dL_law_618 (by decide) ?_
    refine W.lcmp hx hb dL_law_619 ?_
    refine w_top (y := 0) (by decide) ?_
    refine lv_if_eq (tgt := 625) hx hb dL_law_620 (by decide) (fun c_620 => ?_) (fun c_620 => absurd (by decide) c_620)
    refine lv_goto (tgt := 2046) hx hb dL_law_625 (by decide) ?_
    refine W.widen (k := 100000) (n := 1000000) (Nat.le_of_ble_eq_true rfl) (Nat.le_of_ble_eq_true rfl) ?_
    exact law_end ⟨hx, hb, hr, hml, hown, hts0, hX, hbl, hlocks, hgv⟩ hAs hS (lv_sub hl [2, 7] rfl)
  · refine lv_istore (lv' := [(6, .int 1), (0, .ref b), (1, .ref to), (2, .ref mo), (3, .ref o), (4, .ref od), (5, .int 0)]) hx hb dL_law_558 hl (by decide) rfl (fun ls hl => ?_)
    refine lv_aload_n hx hb dL_law_560 rfl (lv_at hl 3 rfl) ?_
    refine lv_aload_n hx hb dL_law_561 rfl (lv_at hl 1 rfl) ?_
    refine lv_iload hx hb dL_law_562 (lv_at hl 6 rfl) ?_
    refine lv_iconst (v := 1) hx hb dL_law_564 (by decide) ?_
    refine lv_iadd hx hb dL_law_565 ?_
    refine w_top (y := 1) (by decide) ?_
    refine va_sld hx hb hX hbl hbA hS (vp_in_nI (n := 1) (N := 6) (by decide) (by decide)) dL_law_566 ?_
    refine w_top (y := xs 1) rfl ?_
    refine lv_aload_n hx hb dL_law_567 rfl (lv_at hl 1 rfl) ?_
    refine lv_iload hx hb dL_law_568 (lv_at hl 6 rfl) ?_
    refine lv_iconst (v := 2) hx hb dL_law_570 (by decide) ?_
    refine lv_iadd hx hb dL_law_571 ?_
    refine w_top (y := 2) (by decide) ?_
    refine va_sld hx hb hX hbl hbA hS (vp_in_nI (n := 2) (N := 6) (by decide) (by decide)) dL_law_572 ?_
    refine w_top (y := xs 2) rfl ?_
    refine lv_aload_n hx hb dL_law_573 rfl (lv_at hl 1 rfl) ?_
    refine lv_iload hx hb dL_law_574 (lv_at hl 6 rfl) ?_
    refine lv_iconst (v := 3) hx hb dL_law_576 (by decide) ?_
    refine lv_iadd hx hb dL_law_577 ?_
    refine w_top (y := 3) (by decide) ?_
    refine va_sld hx hb hX hbl hbA hS (vp_in_nI (n := 3) (N := 6) (by decide) (by decide)) dL_law_578 ?_
    refine w_top (y := xs 3) rfl ?_
    refine lv_aload_n hx hb dL_law_579 rfl (lv_at hl 1 rfl) ?_
    refine lv_iload hx hb dL_law_580 (lv_at hl 6 rfl) ?_
    refine lv_iconst (v := 4) hx hb dL_law_582 (by decide) ?_
    refine lv_iadd hx hb dL_law_583 ?_
    refine w_top (y := 4) (by decide) ?_
    refine va_sld hx hb hX hbl hbA hS (vp_in_nI (n := 4) (N := 6) (by decide) (by decide)) dL_law_584 ?_
    refine w_top (y := xs 4) rfl ?_
    have hPc := hP.sub (ws' := [(mo, .inr (13, [.int 0, .ref (w0 0), .int 0, .ref (w0 1), .int 0, .int 0, .ref (w0 2), .int 0, .ref (w0 3), .ref (w0 4), .int 0])), ((w0 0), .inl (k 5, 3, .inr (.inr (.inr (.inr (fun i => some (w0 (5 + i)))))))), ((w0 5), .inl (k 0, 768, .inl (fun _ => 0))), ((w0 6), .inl (k 0, 768, .inl (fun _ => 0))), ((w0 7), .inl (k 0, 768, .inl (fun _ => 0))), ((w0 1), .inl (k 6, 8, .inr (.inr (.inr (.inr (fun _ => none)))))), ((w0 2), .inl (k 6, 20, .inr (.inr (.inr (.inr (fun _ => none)))))), ((w0 4), .inl (k 6, 6, .inr (.inr (.inr (.inr (fun _ => none))))))]) [0, 1, 2, 3, 4, 5, 6, 7] rfl
    have hDc := hD.sub (ws' := [(mo, .inr (13, [.int 0, .ref (w0 0), .int 0, .ref (w0 1), .int 0, .int 0, .ref (w0 2), .int 0, .ref (w0 3), .ref (w0 4), .int 0])), ((w0 0), .inl (k 5, 3, .inr (.inr (.inr (.inr (fun i => some (w0 (5 + i)))))))), ((w0 5), .inl (k 0, 768, .inl (fun _ => 0))), ((w0 6), .inl (k 0, 768, .inl (fun _ => 0))), ((w0 7), .inl (k 0, 768, .inl (fun _ => 0))), ((w0 1), .inl (k 6, 8, .inr (.inr (.inr (.inr (fun _ => none)))))), ((w0 2), .inl (k 6, 20, .inr (.inr (.inr (.inr (fun _ => none)))))), ((w0 4), .inl (k 6, 6, .inr (.inr (.inr (.inr (fun _ => none))))))]) [0, 1, 2, 3, 4, 5, 6, 7] (by decide) rfl
    have hFc := va_free (wc := [(mo, .inr (13, [.int 0, .ref (w0 0), .int 0, .ref (w0 1), .int 0, .int 0, .ref (w0 2), .int 0, .ref (w0 3), .ref (w0 4), .int 0])), ((w0 0), .inl (k 5, 3, .inr (.inr (.inr (.inr (fun i => some (w0 (5 + i)))))))), ((w0 5), .inl (k 0, 768, .inl (fun _ => 0))), ((w0 6), .inl (k 0, 768, .inl (fun _ => 0))), ((w0 7), .inl (k 0, 768, .inl (fun _ => 0))), ((w0 1), .inl (k 6, 8, .inr (.inr (.inr (.inr (fun _ => none)))))), ((w0 2), .inl (k 6, 20, .inr (.inr (.inr (.inr (fun _ => none)))))), ((w0 4), .inl (k 6, 6, .inr (.inr (.inr (.inr (fun _ => none))))))]) hD hS hA [0, 1, 2, 3, 4, 5, 6, 7] rfl
    refine va_calli (va_runV (As := [.int (xs 1), .int (xs 2), .int (xs 3), .int (xs 4)]) (rest := []) ⟨hx, hb, hml, hown, hts⟩ (k_X12_entails l D k e0 H.size mo w0 (xs 1) (xs 2) (xs 3) (xs 4)) (cwV 4 hts gL_law_X12_entails rfl rfl rfl (by decide +kernel) ⟨Nat.le_of_ble_eq_true rfl, Nat.le_of_ble_eq_true rfl⟩) ⟨mPc_fb, va_recv hC.1 hPc (ci := 13) (q0 := 0) rfl rfl, mPc_go hC hHf hS hPc hDc hFc⟩ rfl rfl hl.1 rfl (lv_room (Nat.le_of_ble_eq_true rfl)) dL_law_585 ⟨Nat.le_of_ble_eq_true rfl, Nat.le_of_ble_eq_true rfl⟩) hS (fun q9 _ h9 => hFc q9 h9) hFc (fun r6 u5 t H locs ht hvm hw_r6 hB hz1 hk1 hS => ?_)
    obtain ⟨hP1, hD1⟩ := hB
    rw [ht] at hP1
    obtain ⟨hP, hD⟩ := va_join (wr := [(od, .inl (k 8, 1, .inr (.inr (.inr (.inl (fun _ => 0)))))), (o, .inl (k 1, 1, .inr (.inl uL)))]) (w1 := [(mo, .inr (13, u5))]) hP hD [0, 1, 2, 3, 4, 5, 6, 7] [8, 9] rfl rfl (by decide) (by decide) hk1 hFc hP1 hD1
    have hP : va_P D vwCl [(od, .inl (k 8, 1, .inr (.inr (.inr (.inl (fun _ => 0)))))), (o, .inl (k 1, 1, .inr (.inl uL))), (mo, .inr (13, u5))] H := hP
    have hD : va_D A [(od, .inl (k 8, 1, .inr (.inr (.inr (.inl (fun _ => 0)))))), (o, .inl (k 1, 1, .inr (.inl uL))), (mo, .inr (13, u5))] := hD
    have hth : u5[0]? = some (.int 1) := by rcases hw_r6 with ⟨z1, _⟩ | ⟨_, z1⟩; exact absurd z1 hok; exact z1
    refine lv_istore (lv' := [(7, .int r6), (6, .int 1), (0, .ref b), (1, .ref to), (2, .ref mo), (3, .ref o), (4, .ref od), (5, .int 0)]) hx hb dL_law_588 hl (by decide) rfl (fun ls hl => ?_)
    refine lv_aload_n hx hb dL_law_590 rfl (lv_at hl 4 rfl) ?_
    refine pz_i (va_runV (As := []) (rest := []) ⟨hx, hb, hml, hown, hts⟩ (k_X12_thrown l D k H mo u5 1 (hP.sub [2] rfl) hth) (cwV 0 hts gL_law_X12_thrown rfl rfl rfl (by decide +kernel) ⟨Nat.le_of_ble_eq_true rfl, Nat.le_of_ble_eq_true rfl⟩) ⟨pPc_fb, va_recv hC.1 hP (ci := 13) (q0 := 2) rfl rfl, pPc_go hC⟩ rfl rfl hl.1 rfl (lv_room (Nat.le_of_ble_eq_true rfl)) dL_law_591 ⟨Nat.le_of_ble_eq_true rfl, Nat.le_of_ble_eq_true rfl⟩) hS (fun r8 locs hw_r8 hS => ?_)
    subst hw_r8
    refine lv_iload hx hb dL_law_594 (lv_at hl 1 rfl) ?_
    refine lv_icmp_eq (tgt := 601) hx hb dL_law_596 (by decide) (fun c_596 => ?_) (fun c_596 => absurd (by decide) c_596)
    refine lv_iload hx hb dL_law_601 (lv_at hl 1 rfl) ?_
    refine lv_if_ne (tgt := 625) hx hb dL_law_603 (by decide) (fun c_603 => ?_) (fun c_603 => absurd c_603 (by decide))
    refine lv_goto (tgt := 2046) hx hb dL_law_625 (by decide) ?_
    refine W.widen (k := 100000) (n := 1000000) (Nat.le_of_ble_eq_true rfl) (Nat.le_of_ble_eq_true rfl) ?_
    exact law_end ⟨hx, hb, hr, hml, hown, hts0, hX, hbl, hlocks, hgv⟩ hAs hS (lv_sub hl [2, 7] rfl)

set_option maxHeartbeats 4000000 in
set_option maxRecDepth 100000 in
theorem law_c6 {p : Program} {l : Launch} {e : Env} {s : State} {m : MethodId} {below : List Frame} {meth : Method} {c : Code} {b : Nat} {xs : Nat → Int32} (hst : l.stackTraces = false) (C0 : lw_At p s m meth c b 6 xs) {D : va_G} {k : Nat → ClassId} {e0 to mo o od : Nat} {u0 w0 : Nat → Nat} {A : Nat → Prop} (hA : ∀ q, s.heap.size ≤ q → A q) (hAs : ∀ q, A q → s.heap.size ≤ q) (hC : wCx D k s) (hNc : wNc s) (hHf : wHf e0 A s s.heap) {H : Heap} {locs : List Loc} {ls : Array Slot} (hP : va_P D vwCl (wL k to mo o od e0 u0 w0) H) (hD : va_D A (wL k to mo o od e0 u0 w0)) (hS : va_S A s.heap H locs) (hl : lv_has ls 9 [(0, .ref b), (1, .ref to), (2, .ref mo), (3, .ref o), (4, .ref od), (5, .int 0)]) : W p l e room_1 s m #[Value.ref b] below meth c H locs 100 20000 (lw_Z below #[Value.ref b] s) (F0 m 628 ls []) := by
  obtain ⟨hx, hb, hr, hml, hown, hts0, hX, hbl, hlocks, hgv⟩ := C0
  have hts : ∀ w ∈ wsL_law, w.before #[Value.ref b] s = true := fun w h => hts0 w (wsL_law_in w h)
  have hbA : ¬ A b := fun h9 => absurd (hAs b h9) (Nat.not_le.mpr hbl)
  refine lv_aload_n hx hb dL_law_628 rfl (lv_at hl 1 rfl) ?_
  refine lv_aload_n hx hb dL_law_629 rfl (lv_at hl 0 rfl) ?_
  refine lv_iload hx hb dL_law_630 (lv_at hl 5 rfl) ?_
  refine lv_iconst (v := 1) hx hb dL_law_632 (by decide) ?_
  refine lv_iadd hx hb dL_law_633 ?_
  refine w_top (y := 1) (by decide) ?_
  refine va_sld hx hb hX hbl hbA hS (vp_in_nI (n := 1) (N := 6) (by decide) (by decide)) dL_law_634 ?_
  refine w_top (y := xs 1) rfl ?_
  refine lv_aload_n hx hb dL_law_635 rfl (lv_at hl 0 rfl) ?_
  refine lv_iload hx hb dL_law_636 (lv_at hl 5 rfl) ?_
  refine lv_iconst (v := 2) hx hb dL_law_638 (by decide) ?_
  refine lv_iadd hx hb dL_law_639 ?_
  refine w_top (y := 2) (by decide) ?_
  refine va_sld hx hb hX hbl hbA hS (vp_in_nI (n := 2) (N := 6) (by decide) (by decide)) dL_law_640 ?_
  refine w_top (y := xs 2) rfl ?_
  refine lv_aload_n hx hb dL_law_641 rfl (lv_at hl 0 rfl) ?_
  refine lv_iload hx hb dL_law_642 (lv_at hl 5 rfl) ?_
  refine lv_iconst (v := 3) hx hb dL_law_644 (by decide) ?_
  refine lv_iadd hx hb dL_law_645 ?_
  refine w_top (y := 3) (by decide) ?_
  refine va_sld hx hb hX hbl hbA hS (vp_in_nI (n := 3) (N := 6) (by decide) (by decide)) dL_law_646 ?_
  refine w_top (y := xs 3) rfl ?_
  refine lv_aload_n hx hb dL_law_647 rfl (lv_at hl 0 rfl) ?_
  refine lv_iload hx hb dL_law_648 (lv_at hl 5 rfl) ?_
  refine lv_iconst (v := 4) hx hb dL_law_650 (by decide) ?_
  refine lv_iadd hx hb dL_law_651 ?_
  refine w_top (y := 4) (by decide) ?_
  refine va_sld hx hb hX hbl hbA hS (vp_in_nI (n := 4) (N := 6) (by decide) (by decide)) dL_law_652 ?_
  refine w_top (y := xs 4) rfl ?_
  refine lv_aload_n hx hb dL_law_653 rfl (lv_at hl 3 rfl) ?_
  have hPc := hP.sub (ws' := [(to, .inr (12, [.ref (u0 0), .ref (u0 1), .ref (u0 2), .ref (u0 3), .ref (u0 4), .ref (u0 5), .int 0, .int 0, .int 0])), ((u0 0), .inl (k 3, 4, .inr (.inr (.inr (.inr (fun i => some (u0 (6 + i)))))))), ((u0 1), .inr (2, [.int 0, .ref e0, .int 0])), ((u0 2), .inr (2, [.int 0, .ref e0, .int 0])), ((u0 3), .inr (2, [.int 0, .ref e0, .int 0])), ((u0 6), .inr (4, [.ref (u0 10), .ref (u0 14), .int 0, .int 0, .int 0])), ((u0 10), .inl (k 0, 768, .inl (fun _ => 0))), ((u0 14), .inr (8, [.ref (u0 18), .int 1, .ref (u0 22)])), ((u0 18), .inl (k 1, 768, .inr (.inl (fun _ => 0)))), ((u0 7), .inr (4, [.ref (u0 11), .ref (u0 15), .int 0, .int 0, .int 0])), ((u0 11), .inl (k 0, 768, .inl (fun _ => 0))), ((u0 15), .inr (8, [.ref (u0 19), .int 1, .ref (u0 23)])), ((u0 19), .inl (k 1, 768, .inr (.inl (fun _ => 0)))), ((u0 8), .inr (4, [.ref (u0 12), .ref (u0 16), .int 0, .int 0, .int 0])), ((u0 12), .inl (k 0, 768, .inl (fun _ => 0))), ((u0 16), .inr (8, [.ref (u0 20), .int 1, .ref (u0 24)])), ((u0 20), .inl (k 1, 768, .inr (.inl (fun _ => 0)))), ((u0 9), .inr (4, [.ref (u0 13), .ref (u0 17), .int 0, .int 0, .int 0])), ((u0 13), .inl (k 0, 768, .inl (fun _ => 0))), ((u0 17), .inr (8, [.ref (u0 21), .int 1, .ref (u0 25)])), ((u0 21), .inl (k 1, 768, .inr (.inl (fun _ => 0)))), (o, .inl (k 1, 1, .inr (.inl (fun _ => 0))))]) [0, 1, 2, 3, 4, 5, 6, 7, 8, 9, 10, 11, 12, 13, 14, 15, 16, 17, 18, 19, 20, 29] rfl
  have hDc := hD.sub (ws' := [(to, .inr (12, [.ref (u0 0), .ref (u0 1), .ref (u0 2), .ref (u0 3), .ref (u0 4), .ref (u0 5), .int 0, .int 0, .int 0])), ((u0 0), .inl (k 3, 4, .inr (.inr (.inr (.inr (fun i => some (u0 (6 + i)))))))), ((u0 1), .inr (2, [.int 0, .ref e0, .int 0])), ((u0 2), .inr (2, [.int 0, .ref e0, .int 0])), ((u0 3), .inr (2, [.int 0, .ref e0, .int 0])), ((u0 6), .inr (4, [.ref (u0 10), .ref (u0 14), .int 0, .int 0, .int 0])), ((u0 10), .inl (k 0, 768, .inl (fun _ => 0))), ((u0 14), .inr (8, [.ref (u0 18), .int 1, .ref (u0 22)])), ((u0 18), .inl (k 1, 768, .inr (.inl (fun _ => 0)))), ((u0 7), .inr (4, [.ref (u0 11), .ref (u0 15), .int 0, .int 0, .int 0])), ((u0 11), .inl (k 0, 768, .inl (fun _ => 0))), ((u0 15), .inr (8, [.ref (u0 19), .int 1, .ref (u0 23)])), ((u0 19), .inl (k 1, 768, .inr (.inl (fun _ => 0)))), ((u0 8), .inr (4, [.ref (u0 12), .ref (u0 16), .int 0, .int 0, .int 0])), ((u0 12), .inl (k 0, 768, .inl (fun _ => 0))), ((u0 16), .inr (8, [.ref (u0 20), .int 1, .ref (u0 24)])), ((u0 20), .inl (k 1, 768, .inr (.inl (fun _ => 0)))), ((u0 9), .inr (4, [.ref (u0 13), .ref (u0 17), .int 0, .int 0, .int 0])), ((u0 13), .inl (k 0, 768, .inl (fun _ => 0))), ((u0 17), .inr (8, [.ref (u0 21), .int 1, .ref (u0 25)])), ((u0 21), .inl (k 1, 768, .inr (.inl (fun _ => 0)))), (o, .inl (k 1, 1, .inr (.inl (fun _ => 0))))]) [0, 1, 2, 3, 4, 5, 6, 7, 8, 9, 10, 11, 12, 13, 14, 15, 16, 17, 18, 19, 20, 29] (by decide) rfl
  have hFc := va_free (wc := [(to, .inr (12, [.ref (u0 0), .ref (u0 1), .ref (u0 2), .ref (u0 3), .ref (u0 4), .ref (u0 5), .int 0, .int 0, .int 0])), ((u0 0), .inl (k 3, 4, .inr (.inr (.inr (.inr (fun i => some (u0 (6 + i)))))))), ((u0 1), .inr (2, [.int 0, .ref e0, .int 0])), ((u0 2), .inr (2, [.int 0, .ref e0, .int 0])), ((u0 3), .inr (2, [.int 0, .ref e0, .int 0])), ((u0 6), .inr (4, [.ref (u0 10), .ref (u0 14), .int 0, .int 0, .int 0])), ((u0 10), .inl (k 0, 768, .inl (fun _ => 0))), ((u0 14), .inr (8, [.ref (u0 18), .int 1, .ref (u0 22)])), ((u0 18), .inl (k 1, 768, .inr (.inl (fun _ => 0)))), ((u0 7), .inr (4, [.ref (u0 11), .ref (u0 15), .int 0, .int 0, .int 0])), ((u0 11), .inl (k 0, 768, .inl (fun _ => 0))), ((u0 15), .inr (8, [.ref (u0 19), .int 1, .ref (u0 23)])), ((u0 19), .inl (k 1, 768, .inr (.inl (fun _ => 0)))), ((u0 8), .inr (4, [.ref (u0 12), .ref (u0 16), .int 0, .int 0, .int 0])), ((u0 12), .inl (k 0, 768, .inl (fun _ => 0))), ((u0 16), .inr (8, [.ref (u0 20), .int 1, .ref (u0 24)])), ((u0 20), .inl (k 1, 768, .inr (.inl (fun _ => 0)))), ((u0 9), .inr (4, [.ref (u0 13), .ref (u0 17), .int 0, .int 0, .int 0])), ((u0 13), .inl (k 0, 768, .inl (fun _ => 0))), ((u0 17), .inr (8, [.ref (u0 21), .int 1, .ref (u0 25)])), ((u0 21), .inl (k 1, 768, .inr (.inl (fun _ => 0)))), (o, .inl (k 1, 1, .inr (.inl (fun _ => 0))))]) hD hS hA [0, 1, 2, 3, 4, 5, 6, 7, 8, 9, 10, 11, 12, 13, 14, 15, 16, 17, 18, 19, 20, 29] rfl
  refine va_calli (vx_runSW (As := [.ref to, .int (xs 1), .int (xs 2), .int (xs 3), .int (xs 4), .ref o]) (rest := []) ⟨hx, hb, hml, hown, hts⟩ (k_L_leastProof l hst D k e0 H.size to o u0 (fun _ => 0) (xs 1) (xs 2) (xs 3) (xs 4)) (vx_cwSW 6 hts gL_law_L_leastProof rfl rfl rfl (by decide +kernel) ⟨Nat.le_of_ble_eq_true rfl, Nat.le_of_ble_eq_true rfl⟩) ⟨lPc_fb, lPc_go hC hNc hHf hS hPc hDc hFc⟩ rfl rfl hl.1 rfl (lv_room (Nat.le_of_ble_eq_true rfl)) dL_law_654 ⟨Nat.le_of_ble_eq_true rfl, Nat.le_of_ble_eq_true rfl⟩) hS (fun q9 _ h9 => hFc q9 h9) hFc (fun rL uL t H locs ht hvm hwL hB hz1 hk1 hS => ?_)
  obtain ⟨hP1, hD1⟩ := hB
  rw [ht] at hP1
  obtain ⟨hP, hD⟩ := va_join (wr := [(mo, .inr (13, [.int 0, .ref (w0 0), .int 0, .ref (w0 1), .int 0, .int 0, .ref (w0 2), .int 0, .ref (w0 3), .ref (w0 4), .int 0])), ((w0 0), .inl (k 5, 3, .inr (.inr (.inr (.inr (fun i => some (w0 (5 + i)))))))), ((w0 5), .inl (k 0, 768, .inl (fun _ => 0))), ((w0 6), .inl (k 0, 768, .inl (fun _ => 0))), ((w0 7), .inl (k 0, 768, .inl (fun _ => 0))), ((w0 1), .inl (k 6, 8, .inr (.inr (.inr (.inr (fun _ => none)))))), ((w0 2), .inl (k 6, 20, .inr (.inr (.inr (.inr (fun _ => none)))))), ((w0 4), .inl (k 6, 6, .inr (.inr (.inr (.inr (fun _ => none)))))), (od, .inl (k 8, 1, .inr (.inr (.inr (.inl (fun _ => 0))))))]) (w1 := [(o, .inl (k 1, 1, .inr (.inl uL)))]) hP hD [0, 1, 2, 3, 4, 5, 6, 7, 8, 9, 10, 11, 12, 13, 14, 15, 16, 17, 18, 19, 20, 29] [21, 22, 23, 24, 25, 26, 27, 28, 30] rfl rfl (by decide) (by decide) hk1 hFc hP1 hD1
  have hP : va_P D vwCl [(mo, .inr (13, [.int 0, .ref (w0 0), .int 0, .ref (w0 1), .int 0, .int 0, .ref (w0 2), .int 0, .ref (w0 3), .ref (w0 4), .int 0])), ((w0 0), .inl (k 5, 3, .inr (.inr (.inr (.inr (fun i => some (w0 (5 + i)))))))), ((w0 5), .inl (k 0, 768, .inl (fun _ => 0))), ((w0 6), .inl (k 0, 768, .inl (fun _ => 0))), ((w0 7), .inl (k 0, 768, .inl (fun _ => 0))), ((w0 1), .inl (k 6, 8, .inr (.inr (.inr (.inr (fun _ => none)))))), ((w0 2), .inl (k 6, 20, .inr (.inr (.inr (.inr (fun _ => none)))))), ((w0 4), .inl (k 6, 6, .inr (.inr (.inr (.inr (fun _ => none)))))), (od, .inl (k 8, 1, .inr (.inr (.inr (.inl (fun _ => 0)))))), (o, .inl (k 1, 1, .inr (.inl uL)))] H := hP
  have hD : va_D A [(mo, .inr (13, [.int 0, .ref (w0 0), .int 0, .ref (w0 1), .int 0, .int 0, .ref (w0 2), .int 0, .ref (w0 3), .ref (w0 4), .int 0])), ((w0 0), .inl (k 5, 3, .inr (.inr (.inr (.inr (fun i => some (w0 (5 + i)))))))), ((w0 5), .inl (k 0, 768, .inl (fun _ => 0))), ((w0 6), .inl (k 0, 768, .inl (fun _ => 0))), ((w0 7), .inl (k 0, 768, .inl (fun _ => 0))), ((w0 1), .inl (k 6, 8, .inr (.inr (.inr (.inr (fun _ => none)))))), ((w0 2), .inl (k 6, 20, .inr (.inr (.inr (.inr (fun _ => none)))))), ((w0 4), .inl (k 6, 6, .inr (.inr (.inr (.inr (fun _ => none)))))), (od, .inl (k 8, 1, .inr (.inr (.inr (.inl (fun _ => 0)))))), (o, .inl (k 1, 1, .inr (.inl uL)))] := hD
  rcases hwL with ⟨hok, rfl⟩ | ⟨hok, rfl⟩
  · refine lv_istore (lv' := [(6, .int 1), (0, .ref b), (1, .ref to), (2, .ref mo), (3, .ref o), (4, .ref od), (5, .int 0)]) hx hb dL_law_657 hl (by decide) rfl (fun ls hl => ?_)
    refine lv_aload_n hx hb dL_law_659 rfl (lv_at hl 3 rfl) ?_
    refine lv_aload_n hx hb dL_law_660 rfl (lv_at hl 1 rfl) ?_
    refine lv_iload hx hb dL_law_661 (lv_at hl 6 rfl) ?_
    refine lv_iconst (v := 1) hx hb dL_law_663 (by decide) ?_
    refine lv_iadd hx hb dL_law_664 ?_
    refine w_top (y := 1) (by decide) ?_
    refine va_sld hx hb hX hbl hbA hS (vp_in_nI (n := 1) (N := 6) (by decide) (by decide)) dL_law_665 ?_
    refine w_top (y := xs 1) rfl ?_
    refine lv_aload_n hx hb dL_law_666 rfl (lv_at hl 1 rfl) ?_
    refine lv_iload hx hb dL_law_667 (lv_at hl 6 rfl) ?_
    refine lv_iconst (v := 2) hx hb dL_law_669 (by decide) ?_
    refine lv_iadd hx hb dL_law_670 ?_
    refine w_top (y := 2) (by decide) ?_
    refine va_sld hx hb hX hbl hbA hS (vp_in_nI (n := 2) (N := 6) (by decide) (by decide)) dL_law_671 ?_
    refine w_top (y := xs 2) rfl ?_
    refine lv_aload_n hx hb dL_law_672 rfl (lv_at hl 1 rfl) ?_
    refine lv_iload hx hb dL_law_673 (lv_at hl 6 rfl) ?_
    refine lv_iconst (v := 3) hx hb dL_law_675 (by decide) ?_
    refine lv_iadd hx hb dL_law_676 ?_
    refine w_top (y := 3) (by decide) ?_
    refine va_sld hx hb hX hbl hbA hS (vp_in_nI (n := 3) (N := 6) (by decide) (by decide)) dL_law_677 ?_
    refine w_top (y := xs 3) rfl ?_
    refine lv_aload_n hx hb dL_law_678 rfl (lv_at hl 1 rfl) ?_
    refine lv_iload hx hb dL_law_679 (lv_at hl 6 rfl) ?_
    refine lv_iconst (v := 4) hx hb dL_law_681 (by decide) ?_
    refine lv_iadd hx hb dL_law_682 ?_
    refine w_top (y := 4) (by decide) ?_
    refine va_sld hx hb hX hbl hbA hS (vp_in_nI (n := 4) (N := 6) (by decide) (by decide)) dL_law_683 ?_
    refine w_top (y := xs 4) rfl ?_
    have hPc := hP.sub (ws' := [(mo, .inr (13, [.int 0, .ref (w0 0), .int 0, .ref (w0 1), .int 0, .int 0, .ref (w0 2), .int 0, .ref (w0 3), .ref (w0 4), .int 0])), ((w0 0), .inl (k 5, 3, .inr (.inr (.inr (.inr (fun i => some (w0 (5 + i)))))))), ((w0 5), .inl (k 0, 768, .inl (fun _ => 0))), ((w0 6), .inl (k 0, 768, .inl (fun _ => 0))), ((w0 7), .inl (k 0, 768, .inl (fun _ => 0))), ((w0 1), .inl (k 6, 8, .inr (.inr (.inr (.inr (fun _ => none)))))), ((w0 2), .inl (k 6, 20, .inr (.inr (.inr (.inr (fun _ => none)))))), ((w0 4), .inl (k 6, 6, .inr (.inr (.inr (.inr (fun _ => none))))))]) [0, 1, 2, 3, 4, 5, 6, 7] rfl
    have hDc := hD.sub (ws' := [(mo, .inr (13, [.int 0, .ref (w0 0), .int 0, .ref (w0 1), .int 0, .int 0, .ref (w0 2), .int 0, .ref (w0 3), .ref (w0 4), .int 0])), ((w0 0), .inl (k 5, 3, .inr (.inr (.inr (.inr (fun i => some (w0 (5 + i)))))))), ((w0 5), .inl (k 0, 768, .inl (fun _ => 0))), ((w0 6), .inl (k 0, 768, .inl (fun _ => 0))), ((w0 7), .inl (k 0, 768, .inl (fun _ => 0))), ((w0 1), .inl (k 6, 8, .inr (.inr (.inr (.inr (fun _ => none)))))), ((w0 2), .inl (k 6, 20, .inr (.inr (.inr (.inr (fun _ => none)))))), ((w0 4), .inl (k 6, 6, .inr (.inr (.inr (.inr (fun _ => none))))))]) [0, 1, 2, 3, 4, 5, 6, 7] (by decide) rfl
    have hFc := va_free (wc := [(mo, .inr (13, [.int 0, .ref (w0 0), .int 0, .ref (w0 1), .int 0, .int 0, .ref (w0 2), .int 0, .ref (w0 3), .ref (w0 4), .int 0])), ((w0 0), .inl (k 5, 3, .inr (.inr (.inr (.inr (fun i => some (w0 (5 + i)))))))), ((w0 5), .inl (k 0, 768, .inl (fun _ => 0))), ((w0 6), .inl (k 0, 768, .inl (fun _ => 0))), ((w0 7), .inl (k 0, 768, .inl (fun _ => 0))), ((w0 1), .inl (k 6, 8, .inr (.inr (.inr (.inr (fun _ => none)))))), ((w0 2), .inl (k 6, 20, .inr (.inr (.inr (.inr (fun _ => none)))))), ((w0 4), .inl (k 6, 6, .inr (.inr (.inr (.inr (fun _ => none))))))]) hD hS hA [0, 1, 2, 3, 4, 5, 6, 7] rfl
    refine va_calli (va_runV (As := [.int (xs 1), .int (xs 2), .int (xs 3), .int (xs 4)]) (rest := []) ⟨hx, hb, hml, hown, hts⟩ (k_X12_leastProof l D k e0 H.size mo w0 (xs 1) (xs 2) (xs 3) (xs 4)) (cwV 4 hts gL_law_X12_leastProof rfl rfl rfl (by decide +kernel) ⟨Nat.le_of_ble_eq_true rfl, Nat.le_of_ble_eq_true rfl⟩) ⟨mPc_fb, va_recv hC.1 hPc (ci := 13) (q0 := 0) rfl rfl, mPc_go hC hHf hS hPc hDc hFc⟩ rfl rfl hl.1 rfl (lv_room (Nat.le_of_ble_eq_true rfl)) dL_law_684 ⟨Nat.le_of_ble_eq_true rfl, Nat.le_of_ble_eq_true rfl⟩) hS (fun q9 _ h9 => hFc q9 h9) hFc (fun r2 u1 t H locs ht hvm hw_r2 hB hz1 hk1 hS => ?_)
    obtain ⟨hP1, hD1⟩ := hB
    rw [ht] at hP1
    obtain ⟨hP, hD⟩ := va_join (wr := [(od, .inl (k 8, 1, .inr (.inr (.inr (.inl (fun _ => 0)))))), (o, .inl (k 1, 1, .inr (.inl uL)))]) (w1 := [(mo, .inr (13, u1))]) hP hD [0, 1, 2, 3, 4, 5, 6, 7] [8, 9] rfl rfl (by decide) (by decide) hk1 hFc hP1 hD1
    have hP : va_P D vwCl [(od, .inl (k 8, 1, .inr (.inr (.inr (.inl (fun _ => 0)))))), (o, .inl (k 1, 1, .inr (.inl uL))), (mo, .inr (13, u1))] H := hP
    have hD : va_D A [(od, .inl (k 8, 1, .inr (.inr (.inr (.inl (fun _ => 0)))))), (o, .inl (k 1, 1, .inr (.inl uL))), (mo, .inr (13, u1))] := hD
    have hth : u1[0]? = some (.int 1) := by rcases hw_r2 with ⟨z1, _⟩ | ⟨_, z1⟩; exact absurd z1 hok; exact z1
    refine lv_istore (lv' := [(7, .int r2), (6, .int 1), (0, .ref b), (1, .ref to), (2, .ref mo), (3, .ref o), (4, .ref od), (5, .int 0)]) hx hb dL_law_687 hl (by decide) rfl (fun ls hl => ?_)
    refine lv_aload_n hx hb dL_law_689 rfl (lv_at hl 4 rfl) ?_
    refine pz_i (va_runV (As := []) (rest := []) ⟨hx, hb, hml, hown, hts⟩ (k_X12_thrown l D k H mo u1 1 (hP.sub [2] rfl) hth) (cwV 0 hts gL_law_X12_thrown rfl rfl rfl (by decide +kernel) ⟨Nat.le_of_ble_eq_true rfl, Nat.le_of_ble_eq_true rfl⟩) ⟨pPc_fb, va_recv hC.1 hP (ci := 13) (q0 := 2) rfl rfl, pPc_go hC⟩ rfl rfl hl.1 rfl (lv_room (Nat.le_of_ble_eq_true rfl)) dL_law_690 ⟨Nat.le_of_ble_eq_true rfl, Nat.le_of_ble_eq_true rfl⟩) hS (fun r4 locs hw_r4 hS => ?_)
    subst hw_r4
    refine lv_iload hx hb dL_law_693 (lv_at hl 1 rfl) ?_
    refine lv_icmp_eq (tgt := 700) hx hb dL_law_695 (by decide) (fun c_695 => ?_) (fun c_695 => absurd (by decide) c_695)
    refine lv_iload hx hb dL_law_700 (lv_at hl 1 rfl) ?_
    refine lv_if_ne (tgt := 717) hx hb dL_law_702 (by decide) (fun c_702 => ?_) (fun c_702 => absurd c_702 (by decide))
    refine lv_goto (tgt := 2046) hx hb dL_law_717 (by decide) ?_
    refine W.widen (k := 100000) (n := 1000000) (Nat.le_of_ble_eq_true rfl) (Nat.le_of_ble_eq_true rfl) ?_
    exact law_end ⟨hx, hb, hr, hml, hown, hts0, hX, hbl, hlocks, hgv⟩ hAs hS (lv_sub hl [2, 7] rfl)
  · refine lv_istore (lv' := [(6, .int 2), (0, .ref b), (1, .ref to), (2, .ref mo), (3, .ref o), (4, .ref od), (5, .int 0)]) hx hb dL_law_657 hl (by decide) rfl (fun ls hl => ?_)
    refine lv_aload_n hx hb dL_law_659 rfl (lv_at hl 3 rfl) ?_
    refine lv_aload_n hx hb dL_law_660 rfl (lv_at hl 1 rfl) ?_
    refine lv_iload hx hb dL_law_661 (lv_at hl 6 rfl) ?_
    refine lv_iconst (v := 1) hx hb dL_law_663 (by decide) ?_
    refine lv_iadd hx hb dL_law_664 ?_
    refine w_top (y := 1) (by decide) ?_
    refine va_sld hx hb hX hbl hbA hS (vp_in_nI (n := 1) (N := 6) (by decide) (by decide)) dL_law_665 ?_
    refine w_top (y := xs 1) rfl ?_
    refine lv_aload_n hx hb dL_law_666 rfl (lv_at hl 1 rfl) ?_
    refine lv_iload hx hb dL_law_667 (lv_at hl 6 rfl) ?_
    refine lv_iconst (v := 2) hx hb dL_law_669 (by decide) ?_
    refine lv_iadd hx hb dL_law_670 ?_
    refine w_top (y := 2) (by decide) ?_
    refine va_sld hx hb hX hbl hbA hS (vp_in_nI (n := 2) (N := 6) (by decide) (by decide)) dL_law_671 ?_
    refine w_top (y := xs 2) rfl ?_
    refine lv_aload_n hx hb dL_law_672 rfl (lv_at hl 1 rfl) ?_
    refine lv_iload hx hb dL_law_673 (lv_at hl 6 rfl) ?_
    refine lv_iconst (v := 3) hx hb dL_law_675 (by decide) ?_
    refine lv_iadd hx hb dL_law_676 ?_
    refine w_top (y := 3) (by decide) ?_
    refine va_sld hx hb hX hbl hbA hS (vp_in_nI (n := 3) (N := 6) (by decide) (by decide)) dL_law_677 ?_
    refine w_top (y := xs 3) rfl ?_
    refine lv_aload_n hx hb dL_law_678 rfl (lv_at hl 1 rfl) ?_
    refine lv_iload hx hb dL_law_679 (lv_at hl 6 rfl) ?_
    refine lv_iconst (v := 4) hx hb dL_law_681 (by decide) ?_
    refine lv_iadd hx hb dL_law_682 ?_
    refine w_top (y := 4) (by decide) ?_
    refine va_sld hx hb hX hbl hbA hS (vp_in_nI (n := 4) (N := 6) (by decide) (by decide)) dL_law_683 ?_
    refine w_top (y := xs 4) rfl ?_
    have hPc := hP.sub (ws' := [(mo, .inr (13, [.int 0, .ref (w0 0), .int 0, .ref (w0 1), .int 0, .int 0, .ref (w0 2), .int 0, .ref (w0 3), .ref (w0 4), .int 0])), ((w0 0), .inl (k 5, 3, .inr (.inr (.inr (.inr (fun i => some (w0 (5 + i)))))))), ((w0 5), .inl (k 0, 768, .inl (fun _ => 0))), ((w0 6), .inl (k 0, 768, .inl (fun _ => 0))), ((w0 7), .inl (k 0, 768, .inl (fun _ => 0))), ((w0 1), .inl (k 6, 8, .inr (.inr (.inr (.inr (fun _ => none)))))), ((w0 2), .inl (k 6, 20, .inr (.inr (.inr (.inr (fun _ => none)))))), ((w0 4), .inl (k 6, 6, .inr (.inr (.inr (.inr (fun _ => none))))))]) [0, 1, 2, 3, 4, 5, 6, 7] rfl
    have hDc := hD.sub (ws' := [(mo, .inr (13, [.int 0, .ref (w0 0), .int 0, .ref (w0 1), .int 0, .int 0, .ref (w0 2), .int 0, .ref (w0 3), .ref (w0 4), .int 0])), ((w0 0), .inl (k 5, 3, .inr (.inr (.inr (.inr (fun i => some (w0 (5 + i)))))))), ((w0 5), .inl (k 0, 768, .inl (fun _ => 0))), ((w0 6), .inl (k 0, 768, .inl (fun _ => 0))), ((w0 7), .inl (k 0, 768, .inl (fun _ => 0))), ((w0 1), .inl (k 6, 8, .inr (.inr (.inr (.inr (fun _ => none)))))), ((w0 2), .inl (k 6, 20, .inr (.inr (.inr (.inr (fun _ => none)))))), ((w0 4), .inl (k 6, 6, .inr (.inr (.inr (.inr (fun _ => none))))))]) [0, 1, 2, 3, 4, 5, 6, 7] (by decide) rfl
    have hFc := va_free (wc := [(mo, .inr (13, [.int 0, .ref (w0 0), .int 0, .ref (w0 1), .int 0, .int 0, .ref (w0 2), .int 0, .ref (w0 3), .ref (w0 4), .int 0])), ((w0 0), .inl (k 5, 3, .inr (.inr (.inr (.inr (fun i => some (w0 (5 + i)))))))), ((w0 5), .inl (k 0, 768, .inl (fun _ => 0))), ((w0 6), .inl (k 0, 768, .inl (fun _ => 0))), ((w0 7), .inl (k 0, 768, .inl (fun _ => 0))), ((w0 1), .inl (k 6, 8, .inr (.inr (.inr (.inr (fun _ => none)))))), ((w0 2), .inl (k 6, 20, .inr (.inr (.inr (.inr (fun _ => none)))))), ((w0 4), .inl (k 6, 6, .inr (.inr (.inr (.inr (fun _ => none))))))]) hD hS hA [0, 1, 2, 3, 4, 5, 6, 7] rfl
    refine va_calli (va_runV (As := [.int (xs 1), .int (xs 2), .int (xs 3), .int (xs 4)]) (rest := []) ⟨hx, hb, hml, hown, hts⟩ (k_X12_leastProof l D k e0 H.size mo w0 (xs 1) (xs 2) (xs 3) (xs 4)) (cwV 4 hts gL_law_X12_leastProof rfl rfl rfl (by decide +kernel) ⟨Nat.le_of_ble_eq_true rfl, Nat.le_of_ble_eq_true rfl⟩) ⟨mPc_fb, va_recv hC.1 hPc (ci := 13) (q0 := 0) rfl rfl, mPc_go hC hHf hS hPc hDc hFc⟩ rfl rfl hl.1 rfl (lv_room (Nat.le_of_ble_eq_true rfl)) dL_law_684 ⟨Nat.le_of_ble_eq_true rfl, Nat.le_of_ble_eq_true rfl⟩) hS (fun q9 _ h9 => hFc q9 h9) hFc (fun r6 u5 t H locs ht hvm hw_r6 hB hz1 hk1 hS => ?_)
    obtain ⟨hP1, hD1⟩ := hB
    rw [ht] at hP1
    obtain ⟨hP, hD⟩ := va_join (wr := [(od, .inl (k 8, 1, .inr (.inr (.inr (.inl (fun _ => 0)))))), (o, .inl (k 1, 1, .inr (.inl uL)))]) (w1 := [(mo, .inr (13, u5))]) hP hD [0, 1, 2, 3, 4, 5, 6, 7] [8, 9] rfl rfl (by decide) (by decide) hk1 hFc hP1 hD1
    have hP : va_P D vwCl [(od, .inl (k 8, 1, .inr (.inr (.inr (.inl (fun _ => 0)))))), (o, .inl (k 1, 1, .inr (.inl uL))), (mo, .inr (13, u5))] H := hP
    have hD : va_D A [(od, .inl (k 8, 1, .inr (.inr (.inr (.inl (fun _ => 0)))))), (o, .inl (k 1, 1, .inr (.inl uL))), (mo, .inr (13, u5))] := hD
    have hth : u5[0]? = some (.int 2) := by rcases hw_r6 with ⟨_, z1⟩ | ⟨z1, _⟩; exact z1; exact absurd hok z1
    refine lv_istore (lv' := [(7, .int r6), (6, .int 2), (0, .ref b), (1, .ref to), (2, .ref mo), (3, .ref o), (4, .ref od), (5, .int 0)]) hx hb dL_law_687 hl (by decide) rfl (fun ls hl => ?_)
    refine lv_aload_n hx hb dL_law_689 rfl (lv_at hl 4 rfl) ?_
    refine pz_i (va_runV (As := []) (rest := []) ⟨hx, hb, hml, hown, hts⟩ (k_X12_thrown l D k H mo u5 2 (hP.sub [2] rfl) hth) (cwV 0 hts gL_law_X12_thrown rfl rfl rfl (by decide +kernel) ⟨Nat.le_of_ble_eq_true rfl, Nat.le_of_ble_eq_true rfl⟩) ⟨pPc_fb, va_recv hC.1 hP (ci := 13) (q0 := 2) rfl rfl, pPc_go hC⟩ rfl rfl hl.1 rfl (lv_room (Nat.le_of_ble_eq_true rfl)) dL_law_690 ⟨Nat.le_of_ble_eq_true rfl, Nat.le_of_ble_eq_true rfl⟩) hS (fun r8 locs hw_r8 hS => ?_)
    subst hw_r8
    refine lv_iload hx hb dL_law_693 (lv_at hl 1 rfl) ?_
    refine lv_icmp_eq (tgt := 700) hx hb dL_law_695 (by decide) (fun c_695 => ?_) (fun c_695 => absurd (by decide) c_695)
    refine lv_iload hx hb dL_law_700 (lv_at hl 1 rfl) ?_
    refine lv_if_ne (tgt := 717) hx hb dL_law_702 (by decide) (fun c_702 => ?_) (fun c_702 => absurd c_702 (by decide))
    refine lv_goto (tgt := 2046) hx hb dL_law_717 (by decide) ?_
    refine W.widen (k := 100000) (n := 1000000) (Nat.le_of_ble_eq_true rfl) (Nat.le_of_ble_eq_true rfl) ?_
    exact law_end ⟨hx, hb, hr, hml, hown, hts0, hX, hbl, hlocks, hgv⟩ hAs hS (lv_sub hl [2, 7] rfl)

set_option maxHeartbeats 4000000 in
set_option maxRecDepth 100000 in
theorem law_c7 {p : Program} {l : Launch} {e : Env} {s : State} {m : MethodId} {below : List Frame} {meth : Method} {c : Code} {b : Nat} {xs : Nat → Int32} (hst : l.stackTraces = false) (C0 : lw_At p s m meth c b 6 xs) {D : va_G} {k : Nat → ClassId} {e0 to mo o od : Nat} {u0 w0 : Nat → Nat} {A : Nat → Prop} (hA : ∀ q, s.heap.size ≤ q → A q) (hAs : ∀ q, A q → s.heap.size ≤ q) (hC : wCx D k s) (hNc : wNc s) (hHf : wHf e0 A s s.heap) {H : Heap} {locs : List Loc} {ls : Array Slot} (hP : va_P D vwCl (wL k to mo o od e0 u0 w0) H) (hD : va_D A (wL k to mo o od e0 u0 w0)) (hS : va_S A s.heap H locs) (hl : lv_has ls 9 [(0, .ref b), (1, .ref to), (2, .ref mo), (3, .ref o), (4, .ref od), (5, .int 0)]) : W p l e room_1 s m #[Value.ref b] below meth c H locs 100 20000 (lw_Z below #[Value.ref b] s) (F0 m 720 ls []) := by
  obtain ⟨hx, hb, hr, hml, hown, hts0, hX, hbl, hlocks, hgv⟩ := C0
  have hts : ∀ w ∈ wsL_law, w.before #[Value.ref b] s = true := fun w h => hts0 w (wsL_law_in w h)
  have hbA : ¬ A b := fun h9 => absurd (hAs b h9) (Nat.not_le.mpr hbl)
  refine lv_aload_n hx hb dL_law_720 rfl (lv_at hl 1 rfl) ?_
  refine lv_aload_n hx hb dL_law_721 rfl (lv_at hl 0 rfl) ?_
  refine lv_iload hx hb dL_law_722 (lv_at hl 5 rfl) ?_
  refine lv_iconst (v := 1) hx hb dL_law_724 (by decide) ?_
  refine lv_iadd hx hb dL_law_725 ?_
  refine w_top (y := 1) (by decide) ?_
  refine va_sld hx hb hX hbl hbA hS (vp_in_nI (n := 1) (N := 6) (by decide) (by decide)) dL_law_726 ?_
  refine w_top (y := xs 1) rfl ?_
  refine lv_aload_n hx hb dL_law_727 rfl (lv_at hl 3 rfl) ?_
  have hPc := hP.sub (ws' := [(to, .inr (12, [.ref (u0 0), .ref (u0 1), .ref (u0 2), .ref (u0 3), .ref (u0 4), .ref (u0 5), .int 0, .int 0, .int 0])), ((u0 0), .inl (k 3, 4, .inr (.inr (.inr (.inr (fun i => some (u0 (6 + i)))))))), ((u0 1), .inr (2, [.int 0, .ref e0, .int 0])), ((u0 2), .inr (2, [.int 0, .ref e0, .int 0])), ((u0 3), .inr (2, [.int 0, .ref e0, .int 0])), ((u0 6), .inr (4, [.ref (u0 10), .ref (u0 14), .int 0, .int 0, .int 0])), ((u0 10), .inl (k 0, 768, .inl (fun _ => 0))), ((u0 14), .inr (8, [.ref (u0 18), .int 1, .ref (u0 22)])), ((u0 18), .inl (k 1, 768, .inr (.inl (fun _ => 0)))), ((u0 7), .inr (4, [.ref (u0 11), .ref (u0 15), .int 0, .int 0, .int 0])), ((u0 11), .inl (k 0, 768, .inl (fun _ => 0))), ((u0 15), .inr (8, [.ref (u0 19), .int 1, .ref (u0 23)])), ((u0 19), .inl (k 1, 768, .inr (.inl (fun _ => 0)))), ((u0 8), .inr (4, [.ref (u0 12), .ref (u0 16), .int 0, .int 0, .int 0])), ((u0 12), .inl (k 0, 768, .inl (fun _ => 0))), ((u0 16), .inr (8, [.ref (u0 20), .int 1, .ref (u0 24)])), ((u0 20), .inl (k 1, 768, .inr (.inl (fun _ => 0)))), ((u0 9), .inr (4, [.ref (u0 13), .ref (u0 17), .int 0, .int 0, .int 0])), ((u0 13), .inl (k 0, 768, .inl (fun _ => 0))), ((u0 17), .inr (8, [.ref (u0 21), .int 1, .ref (u0 25)])), ((u0 21), .inl (k 1, 768, .inr (.inl (fun _ => 0)))), (o, .inl (k 1, 1, .inr (.inl (fun _ => 0))))]) [0, 1, 2, 3, 4, 5, 6, 7, 8, 9, 10, 11, 12, 13, 14, 15, 16, 17, 18, 19, 20, 29] rfl
  have hDc := hD.sub (ws' := [(to, .inr (12, [.ref (u0 0), .ref (u0 1), .ref (u0 2), .ref (u0 3), .ref (u0 4), .ref (u0 5), .int 0, .int 0, .int 0])), ((u0 0), .inl (k 3, 4, .inr (.inr (.inr (.inr (fun i => some (u0 (6 + i)))))))), ((u0 1), .inr (2, [.int 0, .ref e0, .int 0])), ((u0 2), .inr (2, [.int 0, .ref e0, .int 0])), ((u0 3), .inr (2, [.int 0, .ref e0, .int 0])), ((u0 6), .inr (4, [.ref (u0 10), .ref (u0 14), .int 0, .int 0, .int 0])), ((u0 10), .inl (k 0, 768, .inl (fun _ => 0))), ((u0 14), .inr (8, [.ref (u0 18), .int 1, .ref (u0 22)])), ((u0 18), .inl (k 1, 768, .inr (.inl (fun _ => 0)))), ((u0 7), .inr (4, [.ref (u0 11), .ref (u0 15), .int 0, .int 0, .int 0])), ((u0 11), .inl (k 0, 768, .inl (fun _ => 0))), ((u0 15), .inr (8, [.ref (u0 19), .int 1, .ref (u0 23)])), ((u0 19), .inl (k 1, 768, .inr (.inl (fun _ => 0)))), ((u0 8), .inr (4, [.ref (u0 12), .ref (u0 16), .int 0, .int 0, .int 0])), ((u0 12), .inl (k 0, 768, .inl (fun _ => 0))), ((u0 16), .inr (8, [.ref (u0 20), .int 1, .ref (u0 24)])), ((u0 20), .inl (k 1, 768, .inr (.inl (fun _ => 0)))), ((u0 9), .inr (4, [.ref (u0 13), .ref (u0 17), .int 0, .int 0, .int 0])), ((u0 13), .inl (k 0, 768, .inl (fun _ => 0))), ((u0 17), .inr (8, [.ref (u0 21), .int 1, .ref (u0 25)])), ((u0 21), .inl (k 1, 768, .inr (.inl (fun _ => 0)))), (o, .inl (k 1, 1, .inr (.inl (fun _ => 0))))]) [0, 1, 2, 3, 4, 5, 6, 7, 8, 9, 10, 11, 12, 13, 14, 15, 16, 17, 18, 19, 20, 29] (by decide) rfl
  have hFc := va_free (wc := [(to, .inr (12, [.ref (u0 0), .ref (u0 1), .ref (u0 2), .ref (u0 3), .ref (u0 4), .ref (u0 5), .int 0, .int 0, .int 0])), ((u0 0), .inl (k 3, 4, .inr (.inr (.inr (.inr (fun i => some (u0 (6 + i)))))))), ((u0 1), .inr (2, [.int 0, .ref e0, .int 0])), ((u0 2), .inr (2, [.int 0, .ref e0, .int 0])), ((u0 3), .inr (2, [.int 0, .ref e0, .int 0])), ((u0 6), .inr (4, [.ref (u0 10), .ref (u0 14), .int 0, .int 0, .int 0])), ((u0 10), .inl (k 0, 768, .inl (fun _ => 0))), ((u0 14), .inr (8, [.ref (u0 18), .int 1, .ref (u0 22)])), ((u0 18), .inl (k 1, 768, .inr (.inl (fun _ => 0)))), ((u0 7), .inr (4, [.ref (u0 11), .ref (u0 15), .int 0, .int 0, .int 0])), ((u0 11), .inl (k 0, 768, .inl (fun _ => 0))), ((u0 15), .inr (8, [.ref (u0 19), .int 1, .ref (u0 23)])), ((u0 19), .inl (k 1, 768, .inr (.inl (fun _ => 0)))), ((u0 8), .inr (4, [.ref (u0 12), .ref (u0 16), .int 0, .int 0, .int 0])), ((u0 12), .inl (k 0, 768, .inl (fun _ => 0))), ((u0 16), .inr (8, [.ref (u0 20), .int 1, .ref (u0 24)])), ((u0 20), .inl (k 1, 768, .inr (.inl (fun _ => 0)))), ((u0 9), .inr (4, [.ref (u0 13), .ref (u0 17), .int 0, .int 0, .int 0])), ((u0 13), .inl (k 0, 768, .inl (fun _ => 0))), ((u0 17), .inr (8, [.ref (u0 21), .int 1, .ref (u0 25)])), ((u0 21), .inl (k 1, 768, .inr (.inl (fun _ => 0)))), (o, .inl (k 1, 1, .inr (.inl (fun _ => 0))))]) hD hS hA [0, 1, 2, 3, 4, 5, 6, 7, 8, 9, 10, 11, 12, 13, 14, 15, 16, 17, 18, 19, 20, 29] rfl
  refine va_calli (vx_runSW (As := [.ref to, .int (xs 1), .ref o]) (rest := []) ⟨hx, hb, hml, hown, hts⟩ (k_L_entailed l hst D k e0 H.size to o u0 (fun _ => 0) (xs 1)) (vx_cwSW 3 hts gL_law_L_entailed rfl rfl rfl (by decide +kernel) ⟨Nat.le_of_ble_eq_true rfl, Nat.le_of_ble_eq_true rfl⟩) ⟨lPc_fb, lPc_go hC hNc hHf hS hPc hDc hFc⟩ rfl rfl hl.1 rfl (lv_room (Nat.le_of_ble_eq_true rfl)) dL_law_728 ⟨Nat.le_of_ble_eq_true rfl, Nat.le_of_ble_eq_true rfl⟩) hS (fun q9 _ h9 => hFc q9 h9) hFc (fun rL uL t H locs ht hvm hwL hB hz1 hk1 hS => ?_)
  obtain ⟨hP1, hD1⟩ := hB
  rw [ht] at hP1
  obtain ⟨hP, hD⟩ := va_join (wr := [(mo, .inr (13, [.int 0, .ref (w0 0), .int 0, .ref (w0 1), .int 0, .int 0, .ref (w0 2), .int 0, .ref (w0 3), .ref (w0 4), .int 0])), ((w0 0), .inl (k 5, 3, .inr (.inr (.inr (.inr (fun i => some (w0 (5 + i)))))))), ((w0 5), .inl (k 0, 768, .inl (fun _ => 0))), ((w0 6), .inl (k 0, 768, .inl (fun _ => 0))), ((w0 7), .inl (k 0, 768, .inl (fun _ => 0))), ((w0 1), .inl (k 6, 8, .inr (.inr (.inr (.inr (fun _ => none)))))), ((w0 2), .inl (k 6, 20, .inr (.inr (.inr (.inr (fun _ => none)))))), ((w0 4), .inl (k 6, 6, .inr (.inr (.inr (.inr (fun _ => none)))))), (od, .inl (k 8, 1, .inr (.inr (.inr (.inl (fun _ => 0))))))]) (w1 := [(o, .inl (k 1, 1, .inr (.inl uL)))]) hP hD [0, 1, 2, 3, 4, 5, 6, 7, 8, 9, 10, 11, 12, 13, 14, 15, 16, 17, 18, 19, 20, 29] [21, 22, 23, 24, 25, 26, 27, 28, 30] rfl rfl (by decide) (by decide) hk1 hFc hP1 hD1
  have hP : va_P D vwCl [(mo, .inr (13, [.int 0, .ref (w0 0), .int 0, .ref (w0 1), .int 0, .int 0, .ref (w0 2), .int 0, .ref (w0 3), .ref (w0 4), .int 0])), ((w0 0), .inl (k 5, 3, .inr (.inr (.inr (.inr (fun i => some (w0 (5 + i)))))))), ((w0 5), .inl (k 0, 768, .inl (fun _ => 0))), ((w0 6), .inl (k 0, 768, .inl (fun _ => 0))), ((w0 7), .inl (k 0, 768, .inl (fun _ => 0))), ((w0 1), .inl (k 6, 8, .inr (.inr (.inr (.inr (fun _ => none)))))), ((w0 2), .inl (k 6, 20, .inr (.inr (.inr (.inr (fun _ => none)))))), ((w0 4), .inl (k 6, 6, .inr (.inr (.inr (.inr (fun _ => none)))))), (od, .inl (k 8, 1, .inr (.inr (.inr (.inl (fun _ => 0)))))), (o, .inl (k 1, 1, .inr (.inl uL)))] H := hP
  have hD : va_D A [(mo, .inr (13, [.int 0, .ref (w0 0), .int 0, .ref (w0 1), .int 0, .int 0, .ref (w0 2), .int 0, .ref (w0 3), .ref (w0 4), .int 0])), ((w0 0), .inl (k 5, 3, .inr (.inr (.inr (.inr (fun i => some (w0 (5 + i)))))))), ((w0 5), .inl (k 0, 768, .inl (fun _ => 0))), ((w0 6), .inl (k 0, 768, .inl (fun _ => 0))), ((w0 7), .inl (k 0, 768, .inl (fun _ => 0))), ((w0 1), .inl (k 6, 8, .inr (.inr (.inr (.inr (fun _ => none)))))), ((w0 2), .inl (k 6, 20, .inr (.inr (.inr (.inr (fun _ => none)))))), ((w0 4), .inl (k 6, 6, .inr (.inr (.inr (.inr (fun _ => none)))))), (od, .inl (k 8, 1, .inr (.inr (.inr (.inl (fun _ => 0)))))), (o, .inl (k 1, 1, .inr (.inl uL)))] := hD
  rcases hwL with ⟨hok, rfl, hfL⟩ | ⟨hok, rfl⟩
  · refine lv_istore (lv' := [(6, .int 0), (0, .ref b), (1, .ref to), (2, .ref mo), (3, .ref o), (4, .ref od), (5, .int 0)]) hx hb dL_law_731 hl (by decide) rfl (fun ls hl => ?_)
    refine lv_aload_n hx hb dL_law_733 rfl (lv_at hl 3 rfl) ?_
    refine lv_aload_n hx hb dL_law_734 rfl (lv_at hl 1 rfl) ?_
    refine lv_iload hx hb dL_law_735 (lv_at hl 6 rfl) ?_
    refine lv_iconst (v := 1) hx hb dL_law_737 (by decide) ?_
    refine lv_iadd hx hb dL_law_738 ?_
    refine w_top (y := 1) (by decide) ?_
    refine va_sld hx hb hX hbl hbA hS (vp_in_nI (n := 1) (N := 6) (by decide) (by decide)) dL_law_739 ?_
    refine w_top (y := xs 1) rfl ?_
    have hPc := hP.sub (ws' := [(mo, .inr (13, [.int 0, .ref (w0 0), .int 0, .ref (w0 1), .int 0, .int 0, .ref (w0 2), .int 0, .ref (w0 3), .ref (w0 4), .int 0])), ((w0 0), .inl (k 5, 3, .inr (.inr (.inr (.inr (fun i => some (w0 (5 + i)))))))), ((w0 5), .inl (k 0, 768, .inl (fun _ => 0))), ((w0 6), .inl (k 0, 768, .inl (fun _ => 0))), ((w0 7), .inl (k 0, 768, .inl (fun _ => 0))), ((w0 1), .inl (k 6, 8, .inr (.inr (.inr (.inr (fun _ => none)))))), ((w0 2), .inl (k 6, 20, .inr (.inr (.inr (.inr (fun _ => none)))))), ((w0 4), .inl (k 6, 6, .inr (.inr (.inr (.inr (fun _ => none))))))]) [0, 1, 2, 3, 4, 5, 6, 7] rfl
    have hDc := hD.sub (ws' := [(mo, .inr (13, [.int 0, .ref (w0 0), .int 0, .ref (w0 1), .int 0, .int 0, .ref (w0 2), .int 0, .ref (w0 3), .ref (w0 4), .int 0])), ((w0 0), .inl (k 5, 3, .inr (.inr (.inr (.inr (fun i => some (w0 (5 + i)))))))), ((w0 5), .inl (k 0, 768, .inl (fun _ => 0))), ((w0 6), .inl (k 0, 768, .inl (fun _ => 0))), ((w0 7), .inl (k 0, 768, .inl (fun _ => 0))), ((w0 1), .inl (k 6, 8, .inr (.inr (.inr (.inr (fun _ => none)))))), ((w0 2), .inl (k 6, 20, .inr (.inr (.inr (.inr (fun _ => none)))))), ((w0 4), .inl (k 6, 6, .inr (.inr (.inr (.inr (fun _ => none))))))]) [0, 1, 2, 3, 4, 5, 6, 7] (by decide) rfl
    have hFc := va_free (wc := [(mo, .inr (13, [.int 0, .ref (w0 0), .int 0, .ref (w0 1), .int 0, .int 0, .ref (w0 2), .int 0, .ref (w0 3), .ref (w0 4), .int 0])), ((w0 0), .inl (k 5, 3, .inr (.inr (.inr (.inr (fun i => some (w0 (5 + i)))))))), ((w0 5), .inl (k 0, 768, .inl (fun _ => 0))), ((w0 6), .inl (k 0, 768, .inl (fun _ => 0))), ((w0 7), .inl (k 0, 768, .inl (fun _ => 0))), ((w0 1), .inl (k 6, 8, .inr (.inr (.inr (.inr (fun _ => none)))))), ((w0 2), .inl (k 6, 20, .inr (.inr (.inr (.inr (fun _ => none)))))), ((w0 4), .inl (k 6, 6, .inr (.inr (.inr (.inr (fun _ => none))))))]) hD hS hA [0, 1, 2, 3, 4, 5, 6, 7] rfl
    refine va_calli (va_runV (As := [.int (xs 1)]) (rest := []) ⟨hx, hb, hml, hown, hts⟩ (k_X12_entailed l D k e0 H.size mo w0 (xs 1)) (cwV 1 hts gL_law_X12_entailed rfl rfl rfl (by decide +kernel) ⟨Nat.le_of_ble_eq_true rfl, Nat.le_of_ble_eq_true rfl⟩) ⟨mPc_fb, va_recv hC.1 hPc (ci := 13) (q0 := 0) rfl rfl, mPc_go hC hHf hS hPc hDc hFc⟩ rfl rfl hl.1 rfl (lv_room (Nat.le_of_ble_eq_true rfl)) dL_law_740 ⟨Nat.le_of_ble_eq_true rfl, Nat.le_of_ble_eq_true rfl⟩) hS (fun q9 _ h9 => hFc q9 h9) hFc (fun r2 u1 t H locs ht hvm hw_r2 hB hz1 hk1 hS => ?_)
    obtain ⟨hP1, hD1⟩ := hB
    rw [ht] at hP1
    obtain ⟨hP, hD⟩ := va_join (wr := [(od, .inl (k 8, 1, .inr (.inr (.inr (.inl (fun _ => 0)))))), (o, .inl (k 1, 1, .inr (.inl uL)))]) (w1 := [(mo, .inr (13, u1))]) hP hD [0, 1, 2, 3, 4, 5, 6, 7] [8, 9] rfl rfl (by decide) (by decide) hk1 hFc hP1 hD1
    have hP : va_P D vwCl [(od, .inl (k 8, 1, .inr (.inr (.inr (.inl (fun _ => 0)))))), (o, .inl (k 1, 1, .inr (.inl uL))), (mo, .inr (13, u1))] H := hP
    have hD : va_D A [(od, .inl (k 8, 1, .inr (.inr (.inr (.inl (fun _ => 0)))))), (o, .inl (k 1, 1, .inr (.inl uL))), (mo, .inr (13, u1))] := hD
    obtain ⟨hth, rfl⟩ : u1[0]? = some (.int 0) ∧ r2 = 0 := by rcases hw_r2 with ⟨_, z1, z2⟩ | ⟨z1, _⟩; exact ⟨z1, z2⟩; exact absurd hok z1
    refine lv_istore (lv' := [(7, .int 0), (6, .int 0), (0, .ref b), (1, .ref to), (2, .ref mo), (3, .ref o), (4, .ref od), (5, .int 0)]) hx hb dL_law_743 hl (by decide) rfl (fun ls hl => ?_)
    refine lv_aload_n hx hb dL_law_745 rfl (lv_at hl 4 rfl) ?_
    refine pz_i (va_runV (As := []) (rest := []) ⟨hx, hb, hml, hown, hts⟩ (k_X12_thrown l D k H mo u1 0 (hP.sub [2] rfl) hth) (cwV 0 hts gL_law_X12_thrown rfl rfl rfl (by decide +kernel) ⟨Nat.le_of_ble_eq_true rfl, Nat.le_of_ble_eq_true rfl⟩) ⟨pPc_fb, va_recv hC.1 hP (ci := 13) (q0 := 2) rfl rfl, pPc_go hC⟩ rfl rfl hl.1 rfl (lv_room (Nat.le_of_ble_eq_true rfl)) dL_law_746 ⟨Nat.le_of_ble_eq_true rfl, Nat.le_of_ble_eq_true rfl⟩) hS (fun r4 locs hw_r4 hS => ?_)
    subst hw_r4
    refine lv_iload hx hb dL_law_749 (lv_at hl 1 rfl) ?_
    refine lv_icmp_eq (tgt := 756) hx hb dL_law_751 (by decide) (fun c_751 => ?_) (fun c_751 => absurd (by decide) c_751)
    refine lv_iload hx hb dL_law_756 (lv_at hl 1 rfl) ?_
    refine lv_if_ne (tgt := 773) hx hb dL_law_758 (by decide) (fun c_758 => absurd c_758 (by decide)) (fun c_758 => ?_)
    refine lv_aload_n hx hb dL_law_761 rfl (lv_at hl 5 rfl) ?_
    refine lv_iconst (v := 0) hx hb dL_law_762 (by decide) ?_
    refine va_lald hx hb hC.1 hP 1 1 rfl rfl (vp_in_nI (n := 0) (N := 1) (by decide) (by decide)) dL_law_763 ?_
    refine w_topl (y := 0) hfL ?_
    refine lv_iload hx hb dL_law_764 (lv_at hl 0 rfl) ?_
    refine lv_i2l (v := 0) hx hb dL_law_766 (by decide) ?_
    refine W.lcmp hx hb dL_law_767 ?_
    refine w_top (y := 0) (by decide) ?_
    refine lv_if_eq (tgt := 773) hx hb dL_law_768 (by decide) (fun c_768 => ?_) (fun c_768 => absurd (by decide) c_768)
    refine lv_goto (tgt := 2046) hx hb dL_law_773 (by decide) ?_
    refine W.widen (k := 100000) (n := 1000000) (Nat.le_of_ble_eq_true rfl) (Nat.le_of_ble_eq_true rfl) ?_
    exact law_end ⟨hx, hb, hr, hml, hown, hts0, hX, hbl, hlocks, hgv⟩ hAs hS (lv_sub hl [2, 7] rfl)
  · refine lv_istore (lv' := [(6, .int 1), (0, .ref b), (1, .ref to), (2, .ref mo), (3, .ref o), (4, .ref od), (5, .int 0)]) hx hb dL_law_731 hl (by decide) rfl (fun ls hl => ?_)
    refine lv_aload_n hx hb dL_law_733 rfl (lv_at hl 3 rfl) ?_
    refine lv_aload_n hx hb dL_law_734 rfl (lv_at hl 1 rfl) ?_
    refine lv_iload hx hb dL_law_735 (lv_at hl 6 rfl) ?_
    refine lv_iconst (v := 1) hx hb dL_law_737 (by decide) ?_
    refine lv_iadd hx hb dL_law_738 ?_
    refine w_top (y := 1) (by decide) ?_
    refine va_sld hx hb hX hbl hbA hS (vp_in_nI (n := 1) (N := 6) (by decide) (by decide)) dL_law_739 ?_
    refine w_top (y := xs 1) rfl ?_
    have hPc := hP.sub (ws' := [(mo, .inr (13, [.int 0, .ref (w0 0), .int 0, .ref (w0 1), .int 0, .int 0, .ref (w0 2), .int 0, .ref (w0 3), .ref (w0 4), .int 0])), ((w0 0), .inl (k 5, 3, .inr (.inr (.inr (.inr (fun i => some (w0 (5 + i)))))))), ((w0 5), .inl (k 0, 768, .inl (fun _ => 0))), ((w0 6), .inl (k 0, 768, .inl (fun _ => 0))), ((w0 7), .inl (k 0, 768, .inl (fun _ => 0))), ((w0 1), .inl (k 6, 8, .inr (.inr (.inr (.inr (fun _ => none)))))), ((w0 2), .inl (k 6, 20, .inr (.inr (.inr (.inr (fun _ => none)))))), ((w0 4), .inl (k 6, 6, .inr (.inr (.inr (.inr (fun _ => none))))))]) [0, 1, 2, 3, 4, 5, 6, 7] rfl
    have hDc := hD.sub (ws' := [(mo, .inr (13, [.int 0, .ref (w0 0), .int 0, .ref (w0 1), .int 0, .int 0, .ref (w0 2), .int 0, .ref (w0 3), .ref (w0 4), .int 0])), ((w0 0), .inl (k 5, 3, .inr (.inr (.inr (.inr (fun i => some (w0 (5 + i)))))))), ((w0 5), .inl (k 0, 768, .inl (fun _ => 0))), ((w0 6), .inl (k 0, 768, .inl (fun _ => 0))), ((w0 7), .inl (k 0, 768, .inl (fun _ => 0))), ((w0 1), .inl (k 6, 8, .inr (.inr (.inr (.inr (fun _ => none)))))), ((w0 2), .inl (k 6, 20, .inr (.inr (.inr (.inr (fun _ => none)))))), ((w0 4), .inl (k 6, 6, .inr (.inr (.inr (.inr (fun _ => none))))))]) [0, 1, 2, 3, 4, 5, 6, 7] (by decide) rfl
    have hFc := va_free (wc := [(mo, .inr (13, [.int 0, .ref (w0 0), .int 0, .ref (w0 1), .int 0, .int 0, .ref (w0 2), .int 0, .ref (w0 3), .ref (w0 4), .int 0])), ((w0 0), .inl (k 5, 3, .inr (.inr (.inr (.inr (fun i => some (w0 (5 + i)))))))), ((w0 5), .inl (k 0, 768, .inl (fun _ => 0))), ((w0 6), .inl (k 0, 768, .inl (fun _ => 0))), ((w0 7), .inl (k 0, 768, .inl (fun _ => 0))), ((w0 1), .inl (k 6, 8, .inr (.inr (.inr (.inr (fun _ => none)))))), ((w0 2), .inl (k 6, 20, .inr (.inr (.inr (.inr (fun _ => none)))))), ((w0 4), .inl (k 6, 6, .inr (.inr (.inr (.inr (fun _ => none))))))]) hD hS hA [0, 1, 2, 3, 4, 5, 6, 7] rfl
    refine va_calli (va_runV (As := [.int (xs 1)]) (rest := []) ⟨hx, hb, hml, hown, hts⟩ (k_X12_entailed l D k e0 H.size mo w0 (xs 1)) (cwV 1 hts gL_law_X12_entailed rfl rfl rfl (by decide +kernel) ⟨Nat.le_of_ble_eq_true rfl, Nat.le_of_ble_eq_true rfl⟩) ⟨mPc_fb, va_recv hC.1 hPc (ci := 13) (q0 := 0) rfl rfl, mPc_go hC hHf hS hPc hDc hFc⟩ rfl rfl hl.1 rfl (lv_room (Nat.le_of_ble_eq_true rfl)) dL_law_740 ⟨Nat.le_of_ble_eq_true rfl, Nat.le_of_ble_eq_true rfl⟩) hS (fun q9 _ h9 => hFc q9 h9) hFc (fun r6 u5 t H locs ht hvm hw_r6 hB hz1 hk1 hS => ?_)
    obtain ⟨hP1, hD1⟩ := hB
    rw [ht] at hP1
    obtain ⟨hP, hD⟩ := va_join (wr := [(od, .inl (k 8, 1, .inr (.inr (.inr (.inl (fun _ => 0)))))), (o, .inl (k 1, 1, .inr (.inl uL)))]) (w1 := [(mo, .inr (13, u5))]) hP hD [0, 1, 2, 3, 4, 5, 6, 7] [8, 9] rfl rfl (by decide) (by decide) hk1 hFc hP1 hD1
    have hP : va_P D vwCl [(od, .inl (k 8, 1, .inr (.inr (.inr (.inl (fun _ => 0)))))), (o, .inl (k 1, 1, .inr (.inl uL))), (mo, .inr (13, u5))] H := hP
    have hD : va_D A [(od, .inl (k 8, 1, .inr (.inr (.inr (.inl (fun _ => 0)))))), (o, .inl (k 1, 1, .inr (.inl uL))), (mo, .inr (13, u5))] := hD
    have hth : u5[0]? = some (.int 1) := by rcases hw_r6 with ⟨z1, _⟩ | ⟨_, z1⟩; exact absurd z1 hok; exact z1
    refine lv_istore (lv' := [(7, .int r6), (6, .int 1), (0, .ref b), (1, .ref to), (2, .ref mo), (3, .ref o), (4, .ref od), (5, .int 0)]) hx hb dL_law_743 hl (by decide) rfl (fun ls hl => ?_)
    refine lv_aload_n hx hb dL_law_745 rfl (lv_at hl 4 rfl) ?_
    refine pz_i (va_runV (As := []) (rest := []) ⟨hx, hb, hml, hown, hts⟩ (k_X12_thrown l D k H mo u5 1 (hP.sub [2] rfl) hth) (cwV 0 hts gL_law_X12_thrown rfl rfl rfl (by decide +kernel) ⟨Nat.le_of_ble_eq_true rfl, Nat.le_of_ble_eq_true rfl⟩) ⟨pPc_fb, va_recv hC.1 hP (ci := 13) (q0 := 2) rfl rfl, pPc_go hC⟩ rfl rfl hl.1 rfl (lv_room (Nat.le_of_ble_eq_true rfl)) dL_law_746 ⟨Nat.le_of_ble_eq_true rfl, Nat.le_of_ble_eq_true rfl⟩) hS (fun r8 locs hw_r8 hS => ?_)
    subst hw_r8
    refine lv_iload hx hb dL_law_749 (lv_at hl 1 rfl) ?_
    refine lv_icmp_eq (tgt := 756) hx hb dL_law_751 (by decide) (fun c_751 => ?_) (fun c_751 => absurd (by decide) c_751)
    refine lv_iload hx hb dL_law_756 (lv_at hl 1 rfl) ?_
    refine lv_if_ne (tgt := 773) hx hb dL_law_758 (by decide) (fun c_758 => ?_) (fun c_758 => absurd c_758 (by decide))
    refine lv_goto (tgt := 2046) hx hb dL_law_773 (by decide) ?_
    refine W.widen (k := 100000) (n := 1000000) (Nat.le_of_ble_eq_true rfl) (Nat.le_of_ble_eq_true rfl) ?_
    exact law_end ⟨hx, hb, hr, hml, hown, hts0, hX, hbl, hlocks, hgv⟩ hAs hS (lv_sub hl [2, 7] rfl)

set_option maxHeartbeats 4000000 in
set_option maxRecDepth 100000 in
theorem law_c8 {p : Program} {l : Launch} {e : Env} {s : State} {m : MethodId} {below : List Frame} {meth : Method} {c : Code} {b : Nat} {xs : Nat → Int32} (hst : l.stackTraces = false) (C0 : lw_At p s m meth c b 6 xs) {D : va_G} {k : Nat → ClassId} {e0 to mo o od : Nat} {u0 w0 : Nat → Nat} {A : Nat → Prop} (hA : ∀ q, s.heap.size ≤ q → A q) (hAs : ∀ q, A q → s.heap.size ≤ q) (hC : wCx D k s) (hNc : wNc s) (hHf : wHf e0 A s s.heap) {H : Heap} {locs : List Loc} {ls : Array Slot} (hP : va_P D vwCl (wL k to mo o od e0 u0 w0) H) (hD : va_D A (wL k to mo o od e0 u0 w0)) (hS : va_S A s.heap H locs) (hl : lv_has ls 9 [(0, .ref b), (1, .ref to), (2, .ref mo), (3, .ref o), (4, .ref od), (5, .int 0)]) : W p l e room_1 s m #[Value.ref b] below meth c H locs 100 20000 (lw_Z below #[Value.ref b] s) (F0 m 776 ls []) := by
  obtain ⟨hx, hb, hr, hml, hown, hts0, hX, hbl, hlocks, hgv⟩ := C0
  have hts : ∀ w ∈ wsL_law, w.before #[Value.ref b] s = true := fun w h => hts0 w (wsL_law_in w h)
  have hbA : ¬ A b := fun h9 => absurd (hAs b h9) (Nat.not_le.mpr hbl)
  refine lv_aload_n hx hb dL_law_776 rfl (lv_at hl 1 rfl) ?_
  refine lv_aload_n hx hb dL_law_777 rfl (lv_at hl 0 rfl) ?_
  refine lv_iload hx hb dL_law_778 (lv_at hl 5 rfl) ?_
  refine lv_iconst (v := 1) hx hb dL_law_780 (by decide) ?_
  refine lv_iadd hx hb dL_law_781 ?_
  refine w_top (y := 1) (by decide) ?_
  refine va_sld hx hb hX hbl hbA hS (vp_in_nI (n := 1) (N := 6) (by decide) (by decide)) dL_law_782 ?_
  refine w_top (y := xs 1) rfl ?_
  refine lv_if_eq (tgt := 790) hx hb dL_law_783 (by decide) (fun c_783 => ?_) (fun c_783 => ?_)
  · have g_783 : (xs 1).toInt = 0 := congrArg Int32.toInt c_783
    refine lv_iconst (v := 0) hx hb dL_law_790 (by decide) ?_
    have hPc := hP.sub (ws' := [(to, .inr (12, [.ref (u0 0), .ref (u0 1), .ref (u0 2), .ref (u0 3), .ref (u0 4), .ref (u0 5), .int 0, .int 0, .int 0])), ((u0 0), .inl (k 3, 4, .inr (.inr (.inr (.inr (fun i => some (u0 (6 + i)))))))), ((u0 1), .inr (2, [.int 0, .ref e0, .int 0])), ((u0 2), .inr (2, [.int 0, .ref e0, .int 0])), ((u0 3), .inr (2, [.int 0, .ref e0, .int 0])), ((u0 6), .inr (4, [.ref (u0 10), .ref (u0 14), .int 0, .int 0, .int 0])), ((u0 10), .inl (k 0, 768, .inl (fun _ => 0))), ((u0 14), .inr (8, [.ref (u0 18), .int 1, .ref (u0 22)])), ((u0 18), .inl (k 1, 768, .inr (.inl (fun _ => 0)))), ((u0 7), .inr (4, [.ref (u0 11), .ref (u0 15), .int 0, .int 0, .int 0])), ((u0 11), .inl (k 0, 768, .inl (fun _ => 0))), ((u0 15), .inr (8, [.ref (u0 19), .int 1, .ref (u0 23)])), ((u0 19), .inl (k 1, 768, .inr (.inl (fun _ => 0)))), ((u0 8), .inr (4, [.ref (u0 12), .ref (u0 16), .int 0, .int 0, .int 0])), ((u0 12), .inl (k 0, 768, .inl (fun _ => 0))), ((u0 16), .inr (8, [.ref (u0 20), .int 1, .ref (u0 24)])), ((u0 20), .inl (k 1, 768, .inr (.inl (fun _ => 0)))), ((u0 9), .inr (4, [.ref (u0 13), .ref (u0 17), .int 0, .int 0, .int 0])), ((u0 13), .inl (k 0, 768, .inl (fun _ => 0))), ((u0 17), .inr (8, [.ref (u0 21), .int 1, .ref (u0 25)])), ((u0 21), .inl (k 1, 768, .inr (.inl (fun _ => 0))))]) [0, 1, 2, 3, 4, 5, 6, 7, 8, 9, 10, 11, 12, 13, 14, 15, 16, 17, 18, 19, 20] rfl
    have hDc := hD.sub (ws' := [(to, .inr (12, [.ref (u0 0), .ref (u0 1), .ref (u0 2), .ref (u0 3), .ref (u0 4), .ref (u0 5), .int 0, .int 0, .int 0])), ((u0 0), .inl (k 3, 4, .inr (.inr (.inr (.inr (fun i => some (u0 (6 + i)))))))), ((u0 1), .inr (2, [.int 0, .ref e0, .int 0])), ((u0 2), .inr (2, [.int 0, .ref e0, .int 0])), ((u0 3), .inr (2, [.int 0, .ref e0, .int 0])), ((u0 6), .inr (4, [.ref (u0 10), .ref (u0 14), .int 0, .int 0, .int 0])), ((u0 10), .inl (k 0, 768, .inl (fun _ => 0))), ((u0 14), .inr (8, [.ref (u0 18), .int 1, .ref (u0 22)])), ((u0 18), .inl (k 1, 768, .inr (.inl (fun _ => 0)))), ((u0 7), .inr (4, [.ref (u0 11), .ref (u0 15), .int 0, .int 0, .int 0])), ((u0 11), .inl (k 0, 768, .inl (fun _ => 0))), ((u0 15), .inr (8, [.ref (u0 19), .int 1, .ref (u0 23)])), ((u0 19), .inl (k 1, 768, .inr (.inl (fun _ => 0)))), ((u0 8), .inr (4, [.ref (u0 12), .ref (u0 16), .int 0, .int 0, .int 0])), ((u0 12), .inl (k 0, 768, .inl (fun _ => 0))), ((u0 16), .inr (8, [.ref (u0 20), .int 1, .ref (u0 24)])), ((u0 20), .inl (k 1, 768, .inr (.inl (fun _ => 0)))), ((u0 9), .inr (4, [.ref (u0 13), .ref (u0 17), .int 0, .int 0, .int 0])), ((u0 13), .inl (k 0, 768, .inl (fun _ => 0))), ((u0 17), .inr (8, [.ref (u0 21), .int 1, .ref (u0 25)])), ((u0 21), .inl (k 1, 768, .inr (.inl (fun _ => 0))))]) [0, 1, 2, 3, 4, 5, 6, 7, 8, 9, 10, 11, 12, 13, 14, 15, 16, 17, 18, 19, 20] (by decide) rfl
    have hFc := va_free (wc := [(to, .inr (12, [.ref (u0 0), .ref (u0 1), .ref (u0 2), .ref (u0 3), .ref (u0 4), .ref (u0 5), .int 0, .int 0, .int 0])), ((u0 0), .inl (k 3, 4, .inr (.inr (.inr (.inr (fun i => some (u0 (6 + i)))))))), ((u0 1), .inr (2, [.int 0, .ref e0, .int 0])), ((u0 2), .inr (2, [.int 0, .ref e0, .int 0])), ((u0 3), .inr (2, [.int 0, .ref e0, .int 0])), ((u0 6), .inr (4, [.ref (u0 10), .ref (u0 14), .int 0, .int 0, .int 0])), ((u0 10), .inl (k 0, 768, .inl (fun _ => 0))), ((u0 14), .inr (8, [.ref (u0 18), .int 1, .ref (u0 22)])), ((u0 18), .inl (k 1, 768, .inr (.inl (fun _ => 0)))), ((u0 7), .inr (4, [.ref (u0 11), .ref (u0 15), .int 0, .int 0, .int 0])), ((u0 11), .inl (k 0, 768, .inl (fun _ => 0))), ((u0 15), .inr (8, [.ref (u0 19), .int 1, .ref (u0 23)])), ((u0 19), .inl (k 1, 768, .inr (.inl (fun _ => 0)))), ((u0 8), .inr (4, [.ref (u0 12), .ref (u0 16), .int 0, .int 0, .int 0])), ((u0 12), .inl (k 0, 768, .inl (fun _ => 0))), ((u0 16), .inr (8, [.ref (u0 20), .int 1, .ref (u0 24)])), ((u0 20), .inl (k 1, 768, .inr (.inl (fun _ => 0)))), ((u0 9), .inr (4, [.ref (u0 13), .ref (u0 17), .int 0, .int 0, .int 0])), ((u0 13), .inl (k 0, 768, .inl (fun _ => 0))), ((u0 17), .inr (8, [.ref (u0 21), .int 1, .ref (u0 25)])), ((u0 21), .inl (k 1, 768, .inr (.inl (fun _ => 0))))]) hD hS hA [0, 1, 2, 3, 4, 5, 6, 7, 8, 9, 10, 11, 12, 13, 14, 15, 16, 17, 18, 19, 20] rfl
    refine va_calli (va_runV (As := [.int 0]) (rest := []) ⟨hx, hb, hml, hown, hts⟩ (k_X11_setEntailed l D k e0 H.size to u0 0 (by decide)) (cwV 1 hts gL_law_X11_setEntailed rfl rfl rfl (by decide +kernel) ⟨Nat.le_of_ble_eq_true rfl, Nat.le_of_ble_eq_true rfl⟩) ⟨mPc_fb, va_recv hC.1 hPc (ci := 12) (q0 := 0) rfl rfl, mPc_go hC hHf hS hPc hDc hFc⟩ rfl rfl hl.1 rfl (lv_room (Nat.le_of_ble_eq_true rfl)) dL_law_791 ⟨Nat.le_of_ble_eq_true rfl, Nat.le_of_ble_eq_true rfl⟩) hS (fun q9 _ h9 => hFc q9 h9) hFc (fun r2 u1 t H locs ht hvm hw_r2 hB hz1 hk1 hS => ?_)
    obtain ⟨hP, hD⟩ := va_join (wr := [(mo, .inr (13, [.int 0, .ref (w0 0), .int 0, .ref (w0 1), .int 0, .int 0, .ref (w0 2), .int 0, .ref (w0 3), .ref (w0 4), .int 0])), ((w0 0), .inl (k 5, 3, .inr (.inr (.inr (.inr (fun i => some (w0 (5 + i)))))))), ((w0 5), .inl (k 0, 768, .inl (fun _ => 0))), ((w0 6), .inl (k 0, 768, .inl (fun _ => 0))), ((w0 7), .inl (k 0, 768, .inl (fun _ => 0))), ((w0 1), .inl (k 6, 8, .inr (.inr (.inr (.inr (fun _ => none)))))), ((w0 2), .inl (k 6, 20, .inr (.inr (.inr (.inr (fun _ => none)))))), ((w0 4), .inl (k 6, 6, .inr (.inr (.inr (.inr (fun _ => none)))))), (o, .inl (k 1, 1, .inr (.inl (fun _ => 0)))), (od, .inl (k 8, 1, .inr (.inr (.inr (.inl (fun _ => 0))))))]) (w1 := []) hP hD [0, 1, 2, 3, 4, 5, 6, 7, 8, 9, 10, 11, 12, 13, 14, 15, 16, 17, 18, 19, 20] [21, 22, 23, 24, 25, 26, 27, 28, 29, 30] rfl rfl (by decide) (by decide) hk1 hFc w_nilP w_nilD
    have hP : va_P D vwCl [(mo, .inr (13, [.int 0, .ref (w0 0), .int 0, .ref (w0 1), .int 0, .int 0, .ref (w0 2), .int 0, .ref (w0 3), .ref (w0 4), .int 0])), ((w0 0), .inl (k 5, 3, .inr (.inr (.inr (.inr (fun i => some (w0 (5 + i)))))))), ((w0 5), .inl (k 0, 768, .inl (fun _ => 0))), ((w0 6), .inl (k 0, 768, .inl (fun _ => 0))), ((w0 7), .inl (k 0, 768, .inl (fun _ => 0))), ((w0 1), .inl (k 6, 8, .inr (.inr (.inr (.inr (fun _ => none)))))), ((w0 2), .inl (k 6, 20, .inr (.inr (.inr (.inr (fun _ => none)))))), ((w0 4), .inl (k 6, 6, .inr (.inr (.inr (.inr (fun _ => none)))))), (o, .inl (k 1, 1, .inr (.inl (fun _ => 0)))), (od, .inl (k 8, 1, .inr (.inr (.inr (.inl (fun _ => 0))))))] H := hP
    have hD : va_D A [(mo, .inr (13, [.int 0, .ref (w0 0), .int 0, .ref (w0 1), .int 0, .int 0, .ref (w0 2), .int 0, .ref (w0 3), .ref (w0 4), .int 0])), ((w0 0), .inl (k 5, 3, .inr (.inr (.inr (.inr (fun i => some (w0 (5 + i)))))))), ((w0 5), .inl (k 0, 768, .inl (fun _ => 0))), ((w0 6), .inl (k 0, 768, .inl (fun _ => 0))), ((w0 7), .inl (k 0, 768, .inl (fun _ => 0))), ((w0 1), .inl (k 6, 8, .inr (.inr (.inr (.inr (fun _ => none)))))), ((w0 2), .inl (k 6, 20, .inr (.inr (.inr (.inr (fun _ => none)))))), ((w0 4), .inl (k 6, 6, .inr (.inr (.inr (.inr (fun _ => none)))))), (o, .inl (k 1, 1, .inr (.inl (fun _ => 0)))), (od, .inl (k 8, 1, .inr (.inr (.inr (.inl (fun _ => 0))))))] := hD
    subst hw_r2
    refine lv_aload_n hx hb dL_law_794 rfl (lv_at hl 2 rfl) ?_
    refine lv_aload_n hx hb dL_law_795 rfl (lv_at hl 0 rfl) ?_
    refine lv_iload hx hb dL_law_796 (lv_at hl 5 rfl) ?_
    refine lv_iconst (v := 1) hx hb dL_law_798 (by decide) ?_
    refine lv_iadd hx hb dL_law_799 ?_
    refine w_top (y := 1) (by decide) ?_
    refine va_sld hx hb hX hbl hbA hS (vp_in_nI (n := 1) (N := 6) (by decide) (by decide)) dL_law_800 ?_
    refine w_top (y := xs 1) rfl ?_
    refine lv_if_eq (tgt := 808) hx hb dL_law_801 (by decide) (fun c_801 => ?_) (fun c_801 => ?_)
    · have g_801 : (xs 1).toInt = 0 := congrArg Int32.toInt c_801
      refine lv_iconst (v := 0) hx hb dL_law_808 (by decide) ?_
      have hPc := hP.sub (ws' := [(mo, .inr (13, [.int 0, .ref (w0 0), .int 0, .ref (w0 1), .int 0, .int 0, .ref (w0 2), .int 0, .ref (w0 3), .ref (w0 4), .int 0])), ((w0 0), .inl (k 5, 3, .inr (.inr (.inr (.inr (fun i => some (w0 (5 + i)))))))), ((w0 5), .inl (k 0, 768, .inl (fun _ => 0))), ((w0 6), .inl (k 0, 768, .inl (fun _ => 0))), ((w0 7), .inl (k 0, 768, .inl (fun _ => 0))), ((w0 1), .inl (k 6, 8, .inr (.inr (.inr (.inr (fun _ => none)))))), ((w0 2), .inl (k 6, 20, .inr (.inr (.inr (.inr (fun _ => none)))))), ((w0 4), .inl (k 6, 6, .inr (.inr (.inr (.inr (fun _ => none))))))]) [0, 1, 2, 3, 4, 5, 6, 7] rfl
      have hDc := hD.sub (ws' := [(mo, .inr (13, [.int 0, .ref (w0 0), .int 0, .ref (w0 1), .int 0, .int 0, .ref (w0 2), .int 0, .ref (w0 3), .ref (w0 4), .int 0])), ((w0 0), .inl (k 5, 3, .inr (.inr (.inr (.inr (fun i => some (w0 (5 + i)))))))), ((w0 5), .inl (k 0, 768, .inl (fun _ => 0))), ((w0 6), .inl (k 0, 768, .inl (fun _ => 0))), ((w0 7), .inl (k 0, 768, .inl (fun _ => 0))), ((w0 1), .inl (k 6, 8, .inr (.inr (.inr (.inr (fun _ => none)))))), ((w0 2), .inl (k 6, 20, .inr (.inr (.inr (.inr (fun _ => none)))))), ((w0 4), .inl (k 6, 6, .inr (.inr (.inr (.inr (fun _ => none))))))]) [0, 1, 2, 3, 4, 5, 6, 7] (by decide) rfl
      have hFc := va_free (wc := [(mo, .inr (13, [.int 0, .ref (w0 0), .int 0, .ref (w0 1), .int 0, .int 0, .ref (w0 2), .int 0, .ref (w0 3), .ref (w0 4), .int 0])), ((w0 0), .inl (k 5, 3, .inr (.inr (.inr (.inr (fun i => some (w0 (5 + i)))))))), ((w0 5), .inl (k 0, 768, .inl (fun _ => 0))), ((w0 6), .inl (k 0, 768, .inl (fun _ => 0))), ((w0 7), .inl (k 0, 768, .inl (fun _ => 0))), ((w0 1), .inl (k 6, 8, .inr (.inr (.inr (.inr (fun _ => none)))))), ((w0 2), .inl (k 6, 20, .inr (.inr (.inr (.inr (fun _ => none)))))), ((w0 4), .inl (k 6, 6, .inr (.inr (.inr (.inr (fun _ => none))))))]) hD hS hA [0, 1, 2, 3, 4, 5, 6, 7] rfl
      refine va_calli (va_runV (As := [.int 0]) (rest := [.int 0]) ⟨hx, hb, hml, hown, hts⟩ (k_X12_setEntailed l D k e0 H.size mo w0 0 (by decide)) (cwV 1 hts gL_law_X12_setEntailed rfl rfl rfl (by decide +kernel) ⟨Nat.le_of_ble_eq_true rfl, Nat.le_of_ble_eq_true rfl⟩) ⟨mPc_fb, va_recv hC.1 hPc (ci := 13) (q0 := 0) rfl rfl, mPc_go hC hHf hS hPc hDc hFc⟩ rfl rfl hl.1 rfl (lv_room (Nat.le_of_ble_eq_true rfl)) dL_law_809 ⟨Nat.le_of_ble_eq_true rfl, Nat.le_of_ble_eq_true rfl⟩) hS (fun q9 _ h9 => hFc q9 h9) hFc (fun r5 u4 t H locs ht hvm hw_r5 hB hz1 hk1 hS => ?_)
      obtain ⟨hP1, hD1⟩ := hB
      rw [ht] at hP1
      obtain ⟨hP, hD⟩ := va_join (wr := [(o, .inl (k 1, 1, .inr (.inl (fun _ => 0)))), (od, .inl (k 8, 1, .inr (.inr (.inr (.inl (fun _ => 0))))))]) (w1 := [(mo, .inr (13, u4))]) hP hD [0, 1, 2, 3, 4, 5, 6, 7] [8, 9] rfl rfl (by decide) (by decide) hk1 hFc hP1 hD1
      have hP : va_P D vwCl [(o, .inl (k 1, 1, .inr (.inl (fun _ => 0)))), (od, .inl (k 8, 1, .inr (.inr (.inr (.inl (fun _ => 0)))))), (mo, .inr (13, u4))] H := hP
      have hD : va_D A [(o, .inl (k 1, 1, .inr (.inl (fun _ => 0)))), (od, .inl (k 8, 1, .inr (.inr (.inr (.inl (fun _ => 0)))))), (mo, .inr (13, u4))] := hD
      obtain ⟨hth, rfl⟩ := hw_r5
      refine lv_icmp_eq (tgt := 2046) hx hb dL_law_812 (by decide) (fun c_812 => ?_) (fun c_812 => absurd (by decide) c_812)
      refine W.widen (k := 100000) (n := 1000000) (Nat.le_of_ble_eq_true rfl) (Nat.le_of_ble_eq_true rfl) ?_
      exact law_end ⟨hx, hb, hr, hml, hown, hts0, hX, hbl, hlocks, hgv⟩ hAs hS (lv_sub hl [0, 5] rfl)
    · have g_801 : ¬ (xs 1).toInt = 0 := fun q9 => c_801 (Int32.toInt_inj.mp q9)
      refine lv_iconst (v := 1) hx hb dL_law_804 (by decide) ?_
      refine lv_goto (tgt := 809) hx hb dL_law_805 (by decide) ?_
      have hPc := hP.sub (ws' := [(mo, .inr (13, [.int 0, .ref (w0 0), .int 0, .ref (w0 1), .int 0, .int 0, .ref (w0 2), .int 0, .ref (w0 3), .ref (w0 4), .int 0])), ((w0 0), .inl (k 5, 3, .inr (.inr (.inr (.inr (fun i => some (w0 (5 + i)))))))), ((w0 5), .inl (k 0, 768, .inl (fun _ => 0))), ((w0 6), .inl (k 0, 768, .inl (fun _ => 0))), ((w0 7), .inl (k 0, 768, .inl (fun _ => 0))), ((w0 1), .inl (k 6, 8, .inr (.inr (.inr (.inr (fun _ => none)))))), ((w0 2), .inl (k 6, 20, .inr (.inr (.inr (.inr (fun _ => none)))))), ((w0 4), .inl (k 6, 6, .inr (.inr (.inr (.inr (fun _ => none))))))]) [0, 1, 2, 3, 4, 5, 6, 7] rfl
      have hDc := hD.sub (ws' := [(mo, .inr (13, [.int 0, .ref (w0 0), .int 0, .ref (w0 1), .int 0, .int 0, .ref (w0 2), .int 0, .ref (w0 3), .ref (w0 4), .int 0])), ((w0 0), .inl (k 5, 3, .inr (.inr (.inr (.inr (fun i => some (w0 (5 + i)))))))), ((w0 5), .inl (k 0, 768, .inl (fun _ => 0))), ((w0 6), .inl (k 0, 768, .inl (fun _ => 0))), ((w0 7), .inl (k 0, 768, .inl (fun _ => 0))), ((w0 1), .inl (k 6, 8, .inr (.inr (.inr (.inr (fun _ => none)))))), ((w0 2), .inl (k 6, 20, .inr (.inr (.inr (.inr (fun _ => none)))))), ((w0 4), .inl (k 6, 6, .inr (.inr (.inr (.inr (fun _ => none))))))]) [0, 1, 2, 3, 4, 5, 6, 7] (by decide) rfl
      have hFc := va_free (wc := [(mo, .inr (13, [.int 0, .ref (w0 0), .int 0, .ref (w0 1), .int 0, .int 0, .ref (w0 2), .int 0, .ref (w0 3), .ref (w0 4), .int 0])), ((w0 0), .inl (k 5, 3, .inr (.inr (.inr (.inr (fun i => some (w0 (5 + i)))))))), ((w0 5), .inl (k 0, 768, .inl (fun _ => 0))), ((w0 6), .inl (k 0, 768, .inl (fun _ => 0))), ((w0 7), .inl (k 0, 768, .inl (fun _ => 0))), ((w0 1), .inl (k 6, 8, .inr (.inr (.inr (.inr (fun _ => none)))))), ((w0 2), .inl (k 6, 20, .inr (.inr (.inr (.inr (fun _ => none)))))), ((w0 4), .inl (k 6, 6, .inr (.inr (.inr (.inr (fun _ => none))))))]) hD hS hA [0, 1, 2, 3, 4, 5, 6, 7] rfl
      refine va_calli (va_runV (As := [.int 1]) (rest := [.int 0]) ⟨hx, hb, hml, hown, hts⟩ (k_X12_setEntailed l D k e0 H.size mo w0 1 (by decide)) (cwV 1 hts gL_law_X12_setEntailed rfl rfl rfl (by decide +kernel) ⟨Nat.le_of_ble_eq_true rfl, Nat.le_of_ble_eq_true rfl⟩) ⟨mPc_fb, va_recv hC.1 hPc (ci := 13) (q0 := 0) rfl rfl, mPc_go hC hHf hS hPc hDc hFc⟩ rfl rfl hl.1 rfl (lv_room (Nat.le_of_ble_eq_true rfl)) dL_law_809 ⟨Nat.le_of_ble_eq_true rfl, Nat.le_of_ble_eq_true rfl⟩) hS (fun q9 _ h9 => hFc q9 h9) hFc (fun r8 u7 t H locs ht hvm hw_r8 hB hz1 hk1 hS => ?_)
      obtain ⟨hP1, hD1⟩ := hB
      rw [ht] at hP1
      obtain ⟨hP, hD⟩ := va_join (wr := [(o, .inl (k 1, 1, .inr (.inl (fun _ => 0)))), (od, .inl (k 8, 1, .inr (.inr (.inr (.inl (fun _ => 0))))))]) (w1 := [(mo, .inr (13, u7))]) hP hD [0, 1, 2, 3, 4, 5, 6, 7] [8, 9] rfl rfl (by decide) (by decide) hk1 hFc hP1 hD1
      have hP : va_P D vwCl [(o, .inl (k 1, 1, .inr (.inl (fun _ => 0)))), (od, .inl (k 8, 1, .inr (.inr (.inr (.inl (fun _ => 0)))))), (mo, .inr (13, u7))] H := hP
      have hD : va_D A [(o, .inl (k 1, 1, .inr (.inl (fun _ => 0)))), (od, .inl (k 8, 1, .inr (.inr (.inr (.inl (fun _ => 0)))))), (mo, .inr (13, u7))] := hD
      obtain ⟨hth, rfl⟩ := hw_r8
      refine lv_icmp_eq (tgt := 2046) hx hb dL_law_812 (by decide) (fun c_812 => ?_) (fun c_812 => absurd (by decide) c_812)
      refine W.widen (k := 100000) (n := 1000000) (Nat.le_of_ble_eq_true rfl) (Nat.le_of_ble_eq_true rfl) ?_
      exact law_end ⟨hx, hb, hr, hml, hown, hts0, hX, hbl, hlocks, hgv⟩ hAs hS (lv_sub hl [0, 5] rfl)
  · have g_783 : ¬ (xs 1).toInt = 0 := fun q9 => c_783 (Int32.toInt_inj.mp q9)
    refine lv_iconst (v := 1) hx hb dL_law_786 (by decide) ?_
    refine lv_goto (tgt := 791) hx hb dL_law_787 (by decide) ?_
    have hPc := hP.sub (ws' := [(to, .inr (12, [.ref (u0 0), .ref (u0 1), .ref (u0 2), .ref (u0 3), .ref (u0 4), .ref (u0 5), .int 0, .int 0, .int 0])), ((u0 0), .inl (k 3, 4, .inr (.inr (.inr (.inr (fun i => some (u0 (6 + i)))))))), ((u0 1), .inr (2, [.int 0, .ref e0, .int 0])), ((u0 2), .inr (2, [.int 0, .ref e0, .int 0])), ((u0 3), .inr (2, [.int 0, .ref e0, .int 0])), ((u0 6), .inr (4, [.ref (u0 10), .ref (u0 14), .int 0, .int 0, .int 0])), ((u0 10), .inl (k 0, 768, .inl (fun _ => 0))), ((u0 14), .inr (8, [.ref (u0 18), .int 1, .ref (u0 22)])), ((u0 18), .inl (k 1, 768, .inr (.inl (fun _ => 0)))), ((u0 7), .inr (4, [.ref (u0 11), .ref (u0 15), .int 0, .int 0, .int 0])), ((u0 11), .inl (k 0, 768, .inl (fun _ => 0))), ((u0 15), .inr (8, [.ref (u0 19), .int 1, .ref (u0 23)])), ((u0 19), .inl (k 1, 768, .inr (.inl (fun _ => 0)))), ((u0 8), .inr (4, [.ref (u0 12), .ref (u0 16), .int 0, .int 0, .int 0])), ((u0 12), .inl (k 0, 768, .inl (fun _ => 0))), ((u0 16), .inr (8, [.ref (u0 20), .int 1, .ref (u0 24)])), ((u0 20), .inl (k 1, 768, .inr (.inl (fun _ => 0)))), ((u0 9), .inr (4, [.ref (u0 13), .ref (u0 17), .int 0, .int 0, .int 0])), ((u0 13), .inl (k 0, 768, .inl (fun _ => 0))), ((u0 17), .inr (8, [.ref (u0 21), .int 1, .ref (u0 25)])), ((u0 21), .inl (k 1, 768, .inr (.inl (fun _ => 0))))]) [0, 1, 2, 3, 4, 5, 6, 7, 8, 9, 10, 11, 12, 13, 14, 15, 16, 17, 18, 19, 20] rfl
    have hDc := hD.sub (ws' := [(to, .inr (12, [.ref (u0 0), .ref (u0 1), .ref (u0 2), .ref (u0 3), .ref (u0 4), .ref (u0 5), .int 0, .int 0, .int 0])), ((u0 0), .inl (k 3, 4, .inr (.inr (.inr (.inr (fun i => some (u0 (6 + i)))))))), ((u0 1), .inr (2, [.int 0, .ref e0, .int 0])), ((u0 2), .inr (2, [.int 0, .ref e0, .int 0])), ((u0 3), .inr (2, [.int 0, .ref e0, .int 0])), ((u0 6), .inr (4, [.ref (u0 10), .ref (u0 14), .int 0, .int 0, .int 0])), ((u0 10), .inl (k 0, 768, .inl (fun _ => 0))), ((u0 14), .inr (8, [.ref (u0 18), .int 1, .ref (u0 22)])), ((u0 18), .inl (k 1, 768, .inr (.inl (fun _ => 0)))), ((u0 7), .inr (4, [.ref (u0 11), .ref (u0 15), .int 0, .int 0, .int 0])), ((u0 11), .inl (k 0, 768, .inl (fun _ => 0))), ((u0 15), .inr (8, [.ref (u0 19), .int 1, .ref (u0 23)])), ((u0 19), .inl (k 1, 768, .inr (.inl (fun _ => 0)))), ((u0 8), .inr (4, [.ref (u0 12), .ref (u0 16), .int 0, .int 0, .int 0])), ((u0 12), .inl (k 0, 768, .inl (fun _ => 0))), ((u0 16), .inr (8, [.ref (u0 20), .int 1, .ref (u0 24)])), ((u0 20), .inl (k 1, 768, .inr (.inl (fun _ => 0)))), ((u0 9), .inr (4, [.ref (u0 13), .ref (u0 17), .int 0, .int 0, .int 0])), ((u0 13), .inl (k 0, 768, .inl (fun _ => 0))), ((u0 17), .inr (8, [.ref (u0 21), .int 1, .ref (u0 25)])), ((u0 21), .inl (k 1, 768, .inr (.inl (fun _ => 0))))]) [0, 1, 2, 3, 4, 5, 6, 7, 8, 9, 10, 11, 12, 13, 14, 15, 16, 17, 18, 19, 20] (by decide) rfl
    have hFc := va_free (wc := [(to, .inr (12, [.ref (u0 0), .ref (u0 1), .ref (u0 2), .ref (u0 3), .ref (u0 4), .ref (u0 5), .int 0, .int 0, .int 0])), ((u0 0), .inl (k 3, 4, .inr (.inr (.inr (.inr (fun i => some (u0 (6 + i)))))))), ((u0 1), .inr (2, [.int 0, .ref e0, .int 0])), ((u0 2), .inr (2, [.int 0, .ref e0, .int 0])), ((u0 3), .inr (2, [.int 0, .ref e0, .int 0])), ((u0 6), .inr (4, [.ref (u0 10), .ref (u0 14), .int 0, .int 0, .int 0])), ((u0 10), .inl (k 0, 768, .inl (fun _ => 0))), ((u0 14), .inr (8, [.ref (u0 18), .int 1, .ref (u0 22)])), ((u0 18), .inl (k 1, 768, .inr (.inl (fun _ => 0)))), ((u0 7), .inr (4, [.ref (u0 11), .ref (u0 15), .int 0, .int 0, .int 0])), ((u0 11), .inl (k 0, 768, .inl (fun _ => 0))), ((u0 15), .inr (8, [.ref (u0 19), .int 1, .ref (u0 23)])), ((u0 19), .inl (k 1, 768, .inr (.inl (fun _ => 0)))), ((u0 8), .inr (4, [.ref (u0 12), .ref (u0 16), .int 0, .int 0, .int 0])), ((u0 12), .inl (k 0, 768, .inl (fun _ => 0))), ((u0 16), .inr (8, [.ref (u0 20), .int 1, .ref (u0 24)])), ((u0 20), .inl (k 1, 768, .inr (.inl (fun _ => 0)))), ((u0 9), .inr (4, [.ref (u0 13), .ref (u0 17), .int 0, .int 0, .int 0])), ((u0 13), .inl (k 0, 768, .inl (fun _ => 0))), ((u0 17), .inr (8, [.ref (u0 21), .int 1, .ref (u0 25)])), ((u0 21), .inl (k 1, 768, .inr (.inl (fun _ => 0))))]) hD hS hA [0, 1, 2, 3, 4, 5, 6, 7, 8, 9, 10, 11, 12, 13, 14, 15, 16, 17, 18, 19, 20] rfl
    refine va_calli (va_runV (As := [.int 1]) (rest := []) ⟨hx, hb, hml, hown, hts⟩ (k_X11_setEntailed l D k e0 H.size to u0 1 (by decide)) (cwV 1 hts gL_law_X11_setEntailed rfl rfl rfl (by decide +kernel) ⟨Nat.le_of_ble_eq_true rfl, Nat.le_of_ble_eq_true rfl⟩) ⟨mPc_fb, va_recv hC.1 hPc (ci := 12) (q0 := 0) rfl rfl, mPc_go hC hHf hS hPc hDc hFc⟩ rfl rfl hl.1 rfl (lv_room (Nat.le_of_ble_eq_true rfl)) dL_law_791 ⟨Nat.le_of_ble_eq_true rfl, Nat.le_of_ble_eq_true rfl⟩) hS (fun q9 _ h9 => hFc q9 h9) hFc (fun r11 u10 t H locs ht hvm hw_r11 hB hz1 hk1 hS => ?_)
    obtain ⟨hP, hD⟩ := va_join (wr := [(mo, .inr (13, [.int 0, .ref (w0 0), .int 0, .ref (w0 1), .int 0, .int 0, .ref (w0 2), .int 0, .ref (w0 3), .ref (w0 4), .int 0])), ((w0 0), .inl (k 5, 3, .inr (.inr (.inr (.inr (fun i => some (w0 (5 + i)))))))), ((w0 5), .inl (k 0, 768, .inl (fun _ => 0))), ((w0 6), .inl (k 0, 768, .inl (fun _ => 0))), ((w0 7), .inl (k 0, 768, .inl (fun _ => 0))), ((w0 1), .inl (k 6, 8, .inr (.inr (.inr (.inr (fun _ => none)))))), ((w0 2), .inl (k 6, 20, .inr (.inr (.inr (.inr (fun _ => none)))))), ((w0 4), .inl (k 6, 6, .inr (.inr (.inr (.inr (fun _ => none)))))), (o, .inl (k 1, 1, .inr (.inl (fun _ => 0)))), (od, .inl (k 8, 1, .inr (.inr (.inr (.inl (fun _ => 0))))))]) (w1 := []) hP hD [0, 1, 2, 3, 4, 5, 6, 7, 8, 9, 10, 11, 12, 13, 14, 15, 16, 17, 18, 19, 20] [21, 22, 23, 24, 25, 26, 27, 28, 29, 30] rfl rfl (by decide) (by decide) hk1 hFc w_nilP w_nilD
    have hP : va_P D vwCl [(mo, .inr (13, [.int 0, .ref (w0 0), .int 0, .ref (w0 1), .int 0, .int 0, .ref (w0 2), .int 0, .ref (w0 3), .ref (w0 4), .int 0])), ((w0 0), .inl (k 5, 3, .inr (.inr (.inr (.inr (fun i => some (w0 (5 + i)))))))), ((w0 5), .inl (k 0, 768, .inl (fun _ => 0))), ((w0 6), .inl (k 0, 768, .inl (fun _ => 0))), ((w0 7), .inl (k 0, 768, .inl (fun _ => 0))), ((w0 1), .inl (k 6, 8, .inr (.inr (.inr (.inr (fun _ => none)))))), ((w0 2), .inl (k 6, 20, .inr (.inr (.inr (.inr (fun _ => none)))))), ((w0 4), .inl (k 6, 6, .inr (.inr (.inr (.inr (fun _ => none)))))), (o, .inl (k 1, 1, .inr (.inl (fun _ => 0)))), (od, .inl (k 8, 1, .inr (.inr (.inr (.inl (fun _ => 0))))))] H := hP
    have hD : va_D A [(mo, .inr (13, [.int 0, .ref (w0 0), .int 0, .ref (w0 1), .int 0, .int 0, .ref (w0 2), .int 0, .ref (w0 3), .ref (w0 4), .int 0])), ((w0 0), .inl (k 5, 3, .inr (.inr (.inr (.inr (fun i => some (w0 (5 + i)))))))), ((w0 5), .inl (k 0, 768, .inl (fun _ => 0))), ((w0 6), .inl (k 0, 768, .inl (fun _ => 0))), ((w0 7), .inl (k 0, 768, .inl (fun _ => 0))), ((w0 1), .inl (k 6, 8, .inr (.inr (.inr (.inr (fun _ => none)))))), ((w0 2), .inl (k 6, 20, .inr (.inr (.inr (.inr (fun _ => none)))))), ((w0 4), .inl (k 6, 6, .inr (.inr (.inr (.inr (fun _ => none)))))), (o, .inl (k 1, 1, .inr (.inl (fun _ => 0)))), (od, .inl (k 8, 1, .inr (.inr (.inr (.inl (fun _ => 0))))))] := hD
    subst hw_r11
    refine lv_aload_n hx hb dL_law_794 rfl (lv_at hl 2 rfl) ?_
    refine lv_aload_n hx hb dL_law_795 rfl (lv_at hl 0 rfl) ?_
    refine lv_iload hx hb dL_law_796 (lv_at hl 5 rfl) ?_
    refine lv_iconst (v := 1) hx hb dL_law_798 (by decide) ?_
    refine lv_iadd hx hb dL_law_799 ?_
    refine w_top (y := 1) (by decide) ?_
    refine va_sld hx hb hX hbl hbA hS (vp_in_nI (n := 1) (N := 6) (by decide) (by decide)) dL_law_800 ?_
    refine w_top (y := xs 1) rfl ?_
    refine lv_if_eq (tgt := 808) hx hb dL_law_801 (by decide) (fun c_801 => ?_) (fun c_801 => ?_)
    · have g_801 : (xs 1).toInt = 0 := congrArg Int32.toInt c_801
      refine lv_iconst (v := 0) hx hb dL_law_808 (by decide) ?_
      have hPc := hP.sub (ws' := [(mo, .inr (13, [.int 0, .ref (w0 0), .int 0, .ref (w0 1), .int 0, .int 0, .ref (w0 2), .int 0, .ref (w0 3), .ref (w0 4), .int 0])), ((w0 0), .inl (k 5, 3, .inr (.inr (.inr (.inr (fun i => some (w0 (5 + i)))))))), ((w0 5), .inl (k 0, 768, .inl (fun _ => 0))), ((w0 6), .inl (k 0, 768, .inl (fun _ => 0))), ((w0 7), .inl (k 0, 768, .inl (fun _ => 0))), ((w0 1), .inl (k 6, 8, .inr (.inr (.inr (.inr (fun _ => none)))))), ((w0 2), .inl (k 6, 20, .inr (.inr (.inr (.inr (fun _ => none)))))), ((w0 4), .inl (k 6, 6, .inr (.inr (.inr (.inr (fun _ => none))))))]) [0, 1, 2, 3, 4, 5, 6, 7] rfl
      have hDc := hD.sub (ws' := [(mo, .inr (13, [.int 0, .ref (w0 0), .int 0, .ref (w0 1), .int 0, .int 0, .ref (w0 2), .int 0, .ref (w0 3), .ref (w0 4), .int 0])), ((w0 0), .inl (k 5, 3, .inr (.inr (.inr (.inr (fun i => some (w0 (5 + i)))))))), ((w0 5), .inl (k 0, 768, .inl (fun _ => 0))), ((w0 6), .inl (k 0, 768, .inl (fun _ => 0))), ((w0 7), .inl (k 0, 768, .inl (fun _ => 0))), ((w0 1), .inl (k 6, 8, .inr (.inr (.inr (.inr (fun _ => none)))))), ((w0 2), .inl (k 6, 20, .inr (.inr (.inr (.inr (fun _ => none)))))), ((w0 4), .inl (k 6, 6, .inr (.inr (.inr (.inr (fun _ => none))))))]) [0, 1, 2, 3, 4, 5, 6, 7] (by decide) rfl
      have hFc := va_free (wc := [(mo, .inr (13, [.int 0, .ref (w0 0), .int 0, .ref (w0 1), .int 0, .int 0, .ref (w0 2), .int 0, .ref (w0 3), .ref (w0 4), .int 0])), ((w0 0), .inl (k 5, 3, .inr (.inr (.inr (.inr (fun i => some (w0 (5 + i)))))))), ((w0 5), .inl (k 0, 768, .inl (fun _ => 0))), ((w0 6), .inl (k 0, 768, .inl (fun _ => 0))), ((w0 7), .inl (k 0, 768, .inl (fun _ => 0))), ((w0 1), .inl (k 6, 8, .inr (.inr (.inr (.inr (fun _ => none)))))), ((w0 2), .inl (k 6, 20, .inr (.inr (.inr (.inr (fun _ => none)))))), ((w0 4), .inl (k 6, 6, .inr (.inr (.inr (.inr (fun _ => none))))))]) hD hS hA [0, 1, 2, 3, 4, 5, 6, 7] rfl
      refine va_calli (va_runV (As := [.int 0]) (rest := [.int 0]) ⟨hx, hb, hml, hown, hts⟩ (k_X12_setEntailed l D k e0 H.size mo w0 0 (by decide)) (cwV 1 hts gL_law_X12_setEntailed rfl rfl rfl (by decide +kernel) ⟨Nat.le_of_ble_eq_true rfl, Nat.le_of_ble_eq_true rfl⟩) ⟨mPc_fb, va_recv hC.1 hPc (ci := 13) (q0 := 0) rfl rfl, mPc_go hC hHf hS hPc hDc hFc⟩ rfl rfl hl.1 rfl (lv_room (Nat.le_of_ble_eq_true rfl)) dL_law_809 ⟨Nat.le_of_ble_eq_true rfl, Nat.le_of_ble_eq_true rfl⟩) hS (fun q9 _ h9 => hFc q9 h9) hFc (fun r14 u13 t H locs ht hvm hw_r14 hB hz1 hk1 hS => ?_)
      obtain ⟨hP1, hD1⟩ := hB
      rw [ht] at hP1
      obtain ⟨hP, hD⟩ := va_join (wr := [(o, .inl (k 1, 1, .inr (.inl (fun _ => 0)))), (od, .inl (k 8, 1, .inr (.inr (.inr (.inl (fun _ => 0))))))]) (w1 := [(mo, .inr (13, u13))]) hP hD [0, 1, 2, 3, 4, 5, 6, 7] [8, 9] rfl rfl (by decide) (by decide) hk1 hFc hP1 hD1
      have hP : va_P D vwCl [(o, .inl (k 1, 1, .inr (.inl (fun _ => 0)))), (od, .inl (k 8, 1, .inr (.inr (.inr (.inl (fun _ => 0)))))), (mo, .inr (13, u13))] H := hP
      have hD : va_D A [(o, .inl (k 1, 1, .inr (.inl (fun _ => 0)))), (od, .inl (k 8, 1, .inr (.inr (.inr (.inl (fun _ => 0)))))), (mo, .inr (13, u13))] := hD
      obtain ⟨hth, rfl⟩ := hw_r14
      refine lv_icmp_eq (tgt := 2046) hx hb dL_law_812 (by decide) (fun c_812 => ?_) (fun c_812 => absurd (by decide) c_812)
      refine W.widen (k := 100000) (n := 1000000) (Nat.le_of_ble_eq_true rfl) (Nat.le_of_ble_eq_true rfl) ?_
      exact law_end ⟨hx, hb, hr, hml, hown, hts0, hX, hbl, hlocks, hgv⟩ hAs hS (lv_sub hl [0, 5] rfl)
    · have g_801 : ¬ (xs 1).toInt = 0 := fun q9 => c_801 (Int32.toInt_inj.mp q9)
      refine lv_iconst (v := 1) hx hb dL_law_804 (by decide) ?_
      refine lv_goto (tgt := 809) hx hb dL_law_805 (by decide) ?_
      have hPc := hP.sub (ws' := [(mo, .inr (13, [.int 0, .ref (w0 0), .int 0, .ref (w0 1), .int 0, .int 0, .ref (w0 2), .int 0, .ref (w0 3), .ref (w0 4), .int 0])), ((w0 0), .inl (k 5, 3, .inr (.inr (.inr (.inr (fun i => some (w0 (5 + i)))))))), ((w0 5), .inl (k 0, 768, .inl (fun _ => 0))), ((w0 6), .inl (k 0, 768, .inl (fun _ => 0))), ((w0 7), .inl (k 0, 768, .inl (fun _ => 0))), ((w0 1), .inl (k 6, 8, .inr (.inr (.inr (.inr (fun _ => none)))))), ((w0 2), .inl (k 6, 20, .inr (.inr (.inr (.inr (fun _ => none)))))), ((w0 4), .inl (k 6, 6, .inr (.inr (.inr (.inr (fun _ => none))))))]) [0, 1, 2, 3, 4, 5, 6, 7] rfl
      have hDc := hD.sub (ws' := [(mo, .inr (13, [.int 0, .ref (w0 0), .int 0, .ref (w0 1), .int 0, .int 0, .ref (w0 2), .int 0, .ref (w0 3), .ref (w0 4), .int 0])), ((w0 0), .inl (k 5, 3, .inr (.inr (.inr (.inr (fun i => some (w0 (5 + i)))))))), ((w0 5), .inl (k 0, 768, .inl (fun _ => 0))), ((w0 6), .inl (k 0, 768, .inl (fun _ => 0))), ((w0 7), .inl (k 0, 768, .inl (fun _ => 0))), ((w0 1), .inl (k 6, 8, .inr (.inr (.inr (.inr (fun _ => none)))))), ((w0 2), .inl (k 6, 20, .inr (.inr (.inr (.inr (fun _ => none)))))), ((w0 4), .inl (k 6, 6, .inr (.inr (.inr (.inr (fun _ => none))))))]) [0, 1, 2, 3, 4, 5, 6, 7] (by decide) rfl
      have hFc := va_free (wc := [(mo, .inr (13, [.int 0, .ref (w0 0), .int 0, .ref (w0 1), .int 0, .int 0, .ref (w0 2), .int 0, .ref (w0 3), .ref (w0 4), .int 0])), ((w0 0), .inl (k 5, 3, .inr (.inr (.inr (.inr (fun i => some (w0 (5 + i)))))))), ((w0 5), .inl (k 0, 768, .inl (fun _ => 0))), ((w0 6), .inl (k 0, 768, .inl (fun _ => 0))), ((w0 7), .inl (k 0, 768, .inl (fun _ => 0))), ((w0 1), .inl (k 6, 8, .inr (.inr (.inr (.inr (fun _ => none)))))), ((w0 2), .inl (k 6, 20, .inr (.inr (.inr (.inr (fun _ => none)))))), ((w0 4), .inl (k 6, 6, .inr (.inr (.inr (.inr (fun _ => none))))))]) hD hS hA [0, 1, 2, 3, 4, 5, 6, 7] rfl
      refine va_calli (va_runV (As := [.int 1]) (rest := [.int 0]) ⟨hx, hb, hml, hown, hts⟩ (k_X12_setEntailed l D k e0 H.size mo w0 1 (by decide)) (cwV 1 hts gL_law_X12_setEntailed rfl rfl rfl (by decide +kernel) ⟨Nat.le_of_ble_eq_true rfl, Nat.le_of_ble_eq_true rfl⟩) ⟨mPc_fb, va_recv hC.1 hPc (ci := 13) (q0 := 0) rfl rfl, mPc_go hC hHf hS hPc hDc hFc⟩ rfl rfl hl.1 rfl (lv_room (Nat.le_of_ble_eq_true rfl)) dL_law_809 ⟨Nat.le_of_ble_eq_true rfl, Nat.le_of_ble_eq_true rfl⟩) hS (fun q9 _ h9 => hFc q9 h9) hFc (fun r17 u16 t H locs ht hvm hw_r17 hB hz1 hk1 hS => ?_)
      obtain ⟨hP1, hD1⟩ := hB
      rw [ht] at hP1
      obtain ⟨hP, hD⟩ := va_join (wr := [(o, .inl (k 1, 1, .inr (.inl (fun _ => 0)))), (od, .inl (k 8, 1, .inr (.inr (.inr (.inl (fun _ => 0))))))]) (w1 := [(mo, .inr (13, u16))]) hP hD [0, 1, 2, 3, 4, 5, 6, 7] [8, 9] rfl rfl (by decide) (by decide) hk1 hFc hP1 hD1
      have hP : va_P D vwCl [(o, .inl (k 1, 1, .inr (.inl (fun _ => 0)))), (od, .inl (k 8, 1, .inr (.inr (.inr (.inl (fun _ => 0)))))), (mo, .inr (13, u16))] H := hP
      have hD : va_D A [(o, .inl (k 1, 1, .inr (.inl (fun _ => 0)))), (od, .inl (k 8, 1, .inr (.inr (.inr (.inl (fun _ => 0)))))), (mo, .inr (13, u16))] := hD
      obtain ⟨hth, rfl⟩ := hw_r17
      refine lv_icmp_eq (tgt := 2046) hx hb dL_law_812 (by decide) (fun c_812 => ?_) (fun c_812 => absurd (by decide) c_812)
      refine W.widen (k := 100000) (n := 1000000) (Nat.le_of_ble_eq_true rfl) (Nat.le_of_ble_eq_true rfl) ?_
      exact law_end ⟨hx, hb, hr, hml, hown, hts0, hX, hbl, hlocks, hgv⟩ hAs hS (lv_sub hl [0, 5] rfl)

set_option maxHeartbeats 4000000 in
set_option maxRecDepth 100000 in
theorem law_c9 {p : Program} {l : Launch} {e : Env} {s : State} {m : MethodId} {below : List Frame} {meth : Method} {c : Code} {b : Nat} {xs : Nat → Int32} (hst : l.stackTraces = false) (C0 : lw_At p s m meth c b 6 xs) {D : va_G} {k : Nat → ClassId} {e0 to mo o od : Nat} {u0 w0 : Nat → Nat} {A : Nat → Prop} (hA : ∀ q, s.heap.size ≤ q → A q) (hAs : ∀ q, A q → s.heap.size ≤ q) (hC : wCx D k s) (hNc : wNc s) (hHf : wHf e0 A s s.heap) {H : Heap} {locs : List Loc} {ls : Array Slot} (hP : va_P D vwCl (wL k to mo o od e0 u0 w0) H) (hD : va_D A (wL k to mo o od e0 u0 w0)) (hS : va_S A s.heap H locs) (hl : lv_has ls 9 [(0, .ref b), (1, .ref to), (2, .ref mo), (3, .ref o), (4, .ref od), (5, .int 0)]) : W p l e room_1 s m #[Value.ref b] below meth c H locs 100 20000 (lw_Z below #[Value.ref b] s) (F0 m 817 ls []) := by
  obtain ⟨hx, hb, hr, hml, hown, hts0, hX, hbl, hlocks, hgv⟩ := C0
  have hts : ∀ w ∈ wsL_law, w.before #[Value.ref b] s = true := fun w h => hts0 w (wsL_law_in w h)
  have hbA : ¬ A b := fun h9 => absurd (hAs b h9) (Nat.not_le.mpr hbl)
  refine lv_aload_n hx hb dL_law_817 rfl (lv_at hl 1 rfl) ?_
  refine lv_aload_n hx hb dL_law_818 rfl (lv_at hl 0 rfl) ?_
  refine lv_iload hx hb dL_law_819 (lv_at hl 5 rfl) ?_
  refine lv_iconst (v := 1) hx hb dL_law_821 (by decide) ?_
  refine lv_iadd hx hb dL_law_822 ?_
  refine w_top (y := 1) (by decide) ?_
  refine va_sld hx hb hX hbl hbA hS (vp_in_nI (n := 1) (N := 6) (by decide) (by decide)) dL_law_823 ?_
  refine w_top (y := xs 1) rfl ?_
  refine lv_aload_n hx hb dL_law_824 rfl (lv_at hl 0 rfl) ?_
  refine lv_iload hx hb dL_law_825 (lv_at hl 5 rfl) ?_
  refine lv_iconst (v := 2) hx hb dL_law_827 (by decide) ?_
  refine lv_iadd hx hb dL_law_828 ?_
  refine w_top (y := 2) (by decide) ?_
  refine va_sld hx hb hX hbl hbA hS (vp_in_nI (n := 2) (N := 6) (by decide) (by decide)) dL_law_829 ?_
  refine w_top (y := xs 2) rfl ?_
  refine lv_aload_n hx hb dL_law_830 rfl (lv_at hl 0 rfl) ?_
  refine lv_iload hx hb dL_law_831 (lv_at hl 5 rfl) ?_
  refine lv_iconst (v := 3) hx hb dL_law_833 (by decide) ?_
  refine lv_iadd hx hb dL_law_834 ?_
  refine w_top (y := 3) (by decide) ?_
  refine va_sld hx hb hX hbl hbA hS (vp_in_nI (n := 3) (N := 6) (by decide) (by decide)) dL_law_835 ?_
  refine w_top (y := xs 3) rfl ?_
  refine lv_aload_n hx hb dL_law_836 rfl (lv_at hl 0 rfl) ?_
  refine lv_iload hx hb dL_law_837 (lv_at hl 5 rfl) ?_
  refine lv_iconst (v := 4) hx hb dL_law_839 (by decide) ?_
  refine lv_iadd hx hb dL_law_840 ?_
  refine w_top (y := 4) (by decide) ?_
  refine va_sld hx hb hX hbl hbA hS (vp_in_nI (n := 4) (N := 6) (by decide) (by decide)) dL_law_841 ?_
  refine w_top (y := xs 4) rfl ?_
  refine lv_aload_n hx hb dL_law_842 rfl (lv_at hl 3 rfl) ?_
  have hPc := hP.sub (ws' := [(to, .inr (12, [.ref (u0 0), .ref (u0 1), .ref (u0 2), .ref (u0 3), .ref (u0 4), .ref (u0 5), .int 0, .int 0, .int 0])), ((u0 0), .inl (k 3, 4, .inr (.inr (.inr (.inr (fun i => some (u0 (6 + i)))))))), ((u0 1), .inr (2, [.int 0, .ref e0, .int 0])), ((u0 2), .inr (2, [.int 0, .ref e0, .int 0])), ((u0 3), .inr (2, [.int 0, .ref e0, .int 0])), ((u0 6), .inr (4, [.ref (u0 10), .ref (u0 14), .int 0, .int 0, .int 0])), ((u0 10), .inl (k 0, 768, .inl (fun _ => 0))), ((u0 14), .inr (8, [.ref (u0 18), .int 1, .ref (u0 22)])), ((u0 18), .inl (k 1, 768, .inr (.inl (fun _ => 0)))), ((u0 7), .inr (4, [.ref (u0 11), .ref (u0 15), .int 0, .int 0, .int 0])), ((u0 11), .inl (k 0, 768, .inl (fun _ => 0))), ((u0 15), .inr (8, [.ref (u0 19), .int 1, .ref (u0 23)])), ((u0 19), .inl (k 1, 768, .inr (.inl (fun _ => 0)))), ((u0 8), .inr (4, [.ref (u0 12), .ref (u0 16), .int 0, .int 0, .int 0])), ((u0 12), .inl (k 0, 768, .inl (fun _ => 0))), ((u0 16), .inr (8, [.ref (u0 20), .int 1, .ref (u0 24)])), ((u0 20), .inl (k 1, 768, .inr (.inl (fun _ => 0)))), ((u0 9), .inr (4, [.ref (u0 13), .ref (u0 17), .int 0, .int 0, .int 0])), ((u0 13), .inl (k 0, 768, .inl (fun _ => 0))), ((u0 17), .inr (8, [.ref (u0 21), .int 1, .ref (u0 25)])), ((u0 21), .inl (k 1, 768, .inr (.inl (fun _ => 0)))), (o, .inl (k 1, 1, .inr (.inl (fun _ => 0))))]) [0, 1, 2, 3, 4, 5, 6, 7, 8, 9, 10, 11, 12, 13, 14, 15, 16, 17, 18, 19, 20, 29] rfl
  have hDc := hD.sub (ws' := [(to, .inr (12, [.ref (u0 0), .ref (u0 1), .ref (u0 2), .ref (u0 3), .ref (u0 4), .ref (u0 5), .int 0, .int 0, .int 0])), ((u0 0), .inl (k 3, 4, .inr (.inr (.inr (.inr (fun i => some (u0 (6 + i)))))))), ((u0 1), .inr (2, [.int 0, .ref e0, .int 0])), ((u0 2), .inr (2, [.int 0, .ref e0, .int 0])), ((u0 3), .inr (2, [.int 0, .ref e0, .int 0])), ((u0 6), .inr (4, [.ref (u0 10), .ref (u0 14), .int 0, .int 0, .int 0])), ((u0 10), .inl (k 0, 768, .inl (fun _ => 0))), ((u0 14), .inr (8, [.ref (u0 18), .int 1, .ref (u0 22)])), ((u0 18), .inl (k 1, 768, .inr (.inl (fun _ => 0)))), ((u0 7), .inr (4, [.ref (u0 11), .ref (u0 15), .int 0, .int 0, .int 0])), ((u0 11), .inl (k 0, 768, .inl (fun _ => 0))), ((u0 15), .inr (8, [.ref (u0 19), .int 1, .ref (u0 23)])), ((u0 19), .inl (k 1, 768, .inr (.inl (fun _ => 0)))), ((u0 8), .inr (4, [.ref (u0 12), .ref (u0 16), .int 0, .int 0, .int 0])), ((u0 12), .inl (k 0, 768, .inl (fun _ => 0))), ((u0 16), .inr (8, [.ref (u0 20), .int 1, .ref (u0 24)])), ((u0 20), .inl (k 1, 768, .inr (.inl (fun _ => 0)))), ((u0 9), .inr (4, [.ref (u0 13), .ref (u0 17), .int 0, .int 0, .int 0])), ((u0 13), .inl (k 0, 768, .inl (fun _ => 0))), ((u0 17), .inr (8, [.ref (u0 21), .int 1, .ref (u0 25)])), ((u0 21), .inl (k 1, 768, .inr (.inl (fun _ => 0)))), (o, .inl (k 1, 1, .inr (.inl (fun _ => 0))))]) [0, 1, 2, 3, 4, 5, 6, 7, 8, 9, 10, 11, 12, 13, 14, 15, 16, 17, 18, 19, 20, 29] (by decide) rfl
  have hFc := va_free (wc := [(to, .inr (12, [.ref (u0 0), .ref (u0 1), .ref (u0 2), .ref (u0 3), .ref (u0 4), .ref (u0 5), .int 0, .int 0, .int 0])), ((u0 0), .inl (k 3, 4, .inr (.inr (.inr (.inr (fun i => some (u0 (6 + i)))))))), ((u0 1), .inr (2, [.int 0, .ref e0, .int 0])), ((u0 2), .inr (2, [.int 0, .ref e0, .int 0])), ((u0 3), .inr (2, [.int 0, .ref e0, .int 0])), ((u0 6), .inr (4, [.ref (u0 10), .ref (u0 14), .int 0, .int 0, .int 0])), ((u0 10), .inl (k 0, 768, .inl (fun _ => 0))), ((u0 14), .inr (8, [.ref (u0 18), .int 1, .ref (u0 22)])), ((u0 18), .inl (k 1, 768, .inr (.inl (fun _ => 0)))), ((u0 7), .inr (4, [.ref (u0 11), .ref (u0 15), .int 0, .int 0, .int 0])), ((u0 11), .inl (k 0, 768, .inl (fun _ => 0))), ((u0 15), .inr (8, [.ref (u0 19), .int 1, .ref (u0 23)])), ((u0 19), .inl (k 1, 768, .inr (.inl (fun _ => 0)))), ((u0 8), .inr (4, [.ref (u0 12), .ref (u0 16), .int 0, .int 0, .int 0])), ((u0 12), .inl (k 0, 768, .inl (fun _ => 0))), ((u0 16), .inr (8, [.ref (u0 20), .int 1, .ref (u0 24)])), ((u0 20), .inl (k 1, 768, .inr (.inl (fun _ => 0)))), ((u0 9), .inr (4, [.ref (u0 13), .ref (u0 17), .int 0, .int 0, .int 0])), ((u0 13), .inl (k 0, 768, .inl (fun _ => 0))), ((u0 17), .inr (8, [.ref (u0 21), .int 1, .ref (u0 25)])), ((u0 21), .inl (k 1, 768, .inr (.inl (fun _ => 0)))), (o, .inl (k 1, 1, .inr (.inl (fun _ => 0))))]) hD hS hA [0, 1, 2, 3, 4, 5, 6, 7, 8, 9, 10, 11, 12, 13, 14, 15, 16, 17, 18, 19, 20, 29] rfl
  refine va_calli (vx_runSW (As := [.ref to, .int (xs 1), .int (xs 2), .int (xs 3), .int (xs 4), .ref o]) (rest := []) ⟨hx, hb, hml, hown, hts⟩ (k_L_pattern l hst D k e0 H.size to o u0 (fun _ => 0) (xs 1) (xs 2) (xs 3) (xs 4)) (vx_cwSW 6 hts gL_law_L_pattern rfl rfl rfl (by decide +kernel) ⟨Nat.le_of_ble_eq_true rfl, Nat.le_of_ble_eq_true rfl⟩) ⟨lPc_fb, lPc_go hC hNc hHf hS hPc hDc hFc⟩ rfl rfl hl.1 rfl (lv_room (Nat.le_of_ble_eq_true rfl)) dL_law_843 ⟨Nat.le_of_ble_eq_true rfl, Nat.le_of_ble_eq_true rfl⟩) hS (fun q9 _ h9 => hFc q9 h9) hFc (fun rL uL t H locs ht hvm hwL hB hz1 hk1 hS => ?_)
  obtain ⟨hP1, hD1⟩ := hB
  rw [ht] at hP1
  obtain ⟨hP, hD⟩ := va_join (wr := [(mo, .inr (13, [.int 0, .ref (w0 0), .int 0, .ref (w0 1), .int 0, .int 0, .ref (w0 2), .int 0, .ref (w0 3), .ref (w0 4), .int 0])), ((w0 0), .inl (k 5, 3, .inr (.inr (.inr (.inr (fun i => some (w0 (5 + i)))))))), ((w0 5), .inl (k 0, 768, .inl (fun _ => 0))), ((w0 6), .inl (k 0, 768, .inl (fun _ => 0))), ((w0 7), .inl (k 0, 768, .inl (fun _ => 0))), ((w0 1), .inl (k 6, 8, .inr (.inr (.inr (.inr (fun _ => none)))))), ((w0 2), .inl (k 6, 20, .inr (.inr (.inr (.inr (fun _ => none)))))), ((w0 4), .inl (k 6, 6, .inr (.inr (.inr (.inr (fun _ => none)))))), (od, .inl (k 8, 1, .inr (.inr (.inr (.inl (fun _ => 0))))))]) (w1 := [(o, .inl (k 1, 1, .inr (.inl uL)))]) hP hD [0, 1, 2, 3, 4, 5, 6, 7, 8, 9, 10, 11, 12, 13, 14, 15, 16, 17, 18, 19, 20, 29] [21, 22, 23, 24, 25, 26, 27, 28, 30] rfl rfl (by decide) (by decide) hk1 hFc hP1 hD1
  have hP : va_P D vwCl [(mo, .inr (13, [.int 0, .ref (w0 0), .int 0, .ref (w0 1), .int 0, .int 0, .ref (w0 2), .int 0, .ref (w0 3), .ref (w0 4), .int 0])), ((w0 0), .inl (k 5, 3, .inr (.inr (.inr (.inr (fun i => some (w0 (5 + i)))))))), ((w0 5), .inl (k 0, 768, .inl (fun _ => 0))), ((w0 6), .inl (k 0, 768, .inl (fun _ => 0))), ((w0 7), .inl (k 0, 768, .inl (fun _ => 0))), ((w0 1), .inl (k 6, 8, .inr (.inr (.inr (.inr (fun _ => none)))))), ((w0 2), .inl (k 6, 20, .inr (.inr (.inr (.inr (fun _ => none)))))), ((w0 4), .inl (k 6, 6, .inr (.inr (.inr (.inr (fun _ => none)))))), (od, .inl (k 8, 1, .inr (.inr (.inr (.inl (fun _ => 0)))))), (o, .inl (k 1, 1, .inr (.inl uL)))] H := hP
  have hD : va_D A [(mo, .inr (13, [.int 0, .ref (w0 0), .int 0, .ref (w0 1), .int 0, .int 0, .ref (w0 2), .int 0, .ref (w0 3), .ref (w0 4), .int 0])), ((w0 0), .inl (k 5, 3, .inr (.inr (.inr (.inr (fun i => some (w0 (5 + i)))))))), ((w0 5), .inl (k 0, 768, .inl (fun _ => 0))), ((w0 6), .inl (k 0, 768, .inl (fun _ => 0))), ((w0 7), .inl (k 0, 768, .inl (fun _ => 0))), ((w0 1), .inl (k 6, 8, .inr (.inr (.inr (.inr (fun _ => none)))))), ((w0 2), .inl (k 6, 20, .inr (.inr (.inr (.inr (fun _ => none)))))), ((w0 4), .inl (k 6, 6, .inr (.inr (.inr (.inr (fun _ => none)))))), (od, .inl (k 8, 1, .inr (.inr (.inr (.inl (fun _ => 0)))))), (o, .inl (k 1, 1, .inr (.inl uL)))] := hD
  rcases hwL with ⟨hok, rfl, hfL⟩ | ⟨hok, rfl⟩
  · refine lv_istore (lv' := [(6, .int 0), (0, .ref b), (1, .ref to), (2, .ref mo), (3, .ref o), (4, .ref od), (5, .int 0)]) hx hb dL_law_846 hl (by decide) rfl (fun ls hl => ?_)
    refine lv_aload_n hx hb dL_law_848 rfl (lv_at hl 3 rfl) ?_
    refine lv_aload_n hx hb dL_law_849 rfl (lv_at hl 1 rfl) ?_
    refine lv_iload hx hb dL_law_850 (lv_at hl 6 rfl) ?_
    refine lv_iconst (v := 1) hx hb dL_law_852 (by decide) ?_
    refine lv_iadd hx hb dL_law_853 ?_
    refine w_top (y := 1) (by decide) ?_
    refine va_sld hx hb hX hbl hbA hS (vp_in_nI (n := 1) (N := 6) (by decide) (by decide)) dL_law_854 ?_
    refine w_top (y := xs 1) rfl ?_
    refine lv_aload_n hx hb dL_law_855 rfl (lv_at hl 1 rfl) ?_
    refine lv_iload hx hb dL_law_856 (lv_at hl 6 rfl) ?_
    refine lv_iconst (v := 2) hx hb dL_law_858 (by decide) ?_
    refine lv_iadd hx hb dL_law_859 ?_
    refine w_top (y := 2) (by decide) ?_
    refine va_sld hx hb hX hbl hbA hS (vp_in_nI (n := 2) (N := 6) (by decide) (by decide)) dL_law_860 ?_
    refine w_top (y := xs 2) rfl ?_
    refine lv_aload_n hx hb dL_law_861 rfl (lv_at hl 1 rfl) ?_
    refine lv_iload hx hb dL_law_862 (lv_at hl 6 rfl) ?_
    refine lv_iconst (v := 3) hx hb dL_law_864 (by decide) ?_
    refine lv_iadd hx hb dL_law_865 ?_
    refine w_top (y := 3) (by decide) ?_
    refine va_sld hx hb hX hbl hbA hS (vp_in_nI (n := 3) (N := 6) (by decide) (by decide)) dL_law_866 ?_
    refine w_top (y := xs 3) rfl ?_
    refine lv_aload_n hx hb dL_law_867 rfl (lv_at hl 1 rfl) ?_
    refine lv_iload hx hb dL_law_868 (lv_at hl 6 rfl) ?_
    refine lv_iconst (v := 4) hx hb dL_law_870 (by decide) ?_
    refine lv_iadd hx hb dL_law_871 ?_
    refine w_top (y := 4) (by decide) ?_
    refine va_sld hx hb hX hbl hbA hS (vp_in_nI (n := 4) (N := 6) (by decide) (by decide)) dL_law_872 ?_
    refine w_top (y := xs 4) rfl ?_
    have hPc := hP.sub (ws' := [(mo, .inr (13, [.int 0, .ref (w0 0), .int 0, .ref (w0 1), .int 0, .int 0, .ref (w0 2), .int 0, .ref (w0 3), .ref (w0 4), .int 0])), ((w0 0), .inl (k 5, 3, .inr (.inr (.inr (.inr (fun i => some (w0 (5 + i)))))))), ((w0 5), .inl (k 0, 768, .inl (fun _ => 0))), ((w0 6), .inl (k 0, 768, .inl (fun _ => 0))), ((w0 7), .inl (k 0, 768, .inl (fun _ => 0))), ((w0 1), .inl (k 6, 8, .inr (.inr (.inr (.inr (fun _ => none)))))), ((w0 2), .inl (k 6, 20, .inr (.inr (.inr (.inr (fun _ => none)))))), ((w0 4), .inl (k 6, 6, .inr (.inr (.inr (.inr (fun _ => none))))))]) [0, 1, 2, 3, 4, 5, 6, 7] rfl
    have hDc := hD.sub (ws' := [(mo, .inr (13, [.int 0, .ref (w0 0), .int 0, .ref (w0 1), .int 0, .int 0, .ref (w0 2), .int 0, .ref (w0 3), .ref (w0 4), .int 0])), ((w0 0), .inl (k 5, 3, .inr (.inr (.inr (.inr (fun i => some (w0 (5 + i)))))))), ((w0 5), .inl (k 0, 768, .inl (fun _ => 0))), ((w0 6), .inl (k 0, 768, .inl (fun _ => 0))), ((w0 7), .inl (k 0, 768, .inl (fun _ => 0))), ((w0 1), .inl (k 6, 8, .inr (.inr (.inr (.inr (fun _ => none)))))), ((w0 2), .inl (k 6, 20, .inr (.inr (.inr (.inr (fun _ => none)))))), ((w0 4), .inl (k 6, 6, .inr (.inr (.inr (.inr (fun _ => none))))))]) [0, 1, 2, 3, 4, 5, 6, 7] (by decide) rfl
    have hFc := va_free (wc := [(mo, .inr (13, [.int 0, .ref (w0 0), .int 0, .ref (w0 1), .int 0, .int 0, .ref (w0 2), .int 0, .ref (w0 3), .ref (w0 4), .int 0])), ((w0 0), .inl (k 5, 3, .inr (.inr (.inr (.inr (fun i => some (w0 (5 + i)))))))), ((w0 5), .inl (k 0, 768, .inl (fun _ => 0))), ((w0 6), .inl (k 0, 768, .inl (fun _ => 0))), ((w0 7), .inl (k 0, 768, .inl (fun _ => 0))), ((w0 1), .inl (k 6, 8, .inr (.inr (.inr (.inr (fun _ => none)))))), ((w0 2), .inl (k 6, 20, .inr (.inr (.inr (.inr (fun _ => none)))))), ((w0 4), .inl (k 6, 6, .inr (.inr (.inr (.inr (fun _ => none))))))]) hD hS hA [0, 1, 2, 3, 4, 5, 6, 7] rfl
    refine va_calli (va_runV (As := [.int (xs 1), .int (xs 2), .int (xs 3), .int (xs 4)]) (rest := []) ⟨hx, hb, hml, hown, hts⟩ (k_X12_pattern l D k e0 H.size mo w0 (xs 1) (xs 2) (xs 3) (xs 4)) (cwV 4 hts gL_law_X12_pattern rfl rfl rfl (by decide +kernel) ⟨Nat.le_of_ble_eq_true rfl, Nat.le_of_ble_eq_true rfl⟩) ⟨mPc_fb, va_recv hC.1 hPc (ci := 13) (q0 := 0) rfl rfl, mPc_go hC hHf hS hPc hDc hFc⟩ rfl rfl hl.1 rfl (lv_room (Nat.le_of_ble_eq_true rfl)) dL_law_873 ⟨Nat.le_of_ble_eq_true rfl, Nat.le_of_ble_eq_true rfl⟩) hS (fun q9 _ h9 => hFc q9 h9) hFc (fun r2 u1 t H locs ht hvm hw_r2 hB hz1 hk1 hS => ?_)
    obtain ⟨hP1, hD1⟩ := hB
    rw [ht] at hP1
    obtain ⟨hP, hD⟩ := va_join (wr := [(od, .inl (k 8, 1, .inr (.inr (.inr (.inl (fun _ => 0)))))), (o, .inl (k 1, 1, .inr (.inl uL)))]) (w1 := [(mo, .inr (13, u1))]) hP hD [0, 1, 2, 3, 4, 5, 6, 7] [8, 9] rfl rfl (by decide) (by decide) hk1 hFc hP1 hD1
    have hP : va_P D vwCl [(od, .inl (k 8, 1, .inr (.inr (.inr (.inl (fun _ => 0)))))), (o, .inl (k 1, 1, .inr (.inl uL))), (mo, .inr (13, u1))] H := hP
    have hD : va_D A [(od, .inl (k 8, 1, .inr (.inr (.inr (.inl (fun _ => 0)))))), (o, .inl (k 1, 1, .inr (.inl uL))), (mo, .inr (13, u1))] := hD
    obtain ⟨hth, rfl⟩ : u1[0]? = some (.int 0) ∧ r2 = 0 := by rcases hw_r2 with ⟨_, z1, z2⟩ | ⟨z1, _⟩; exact ⟨z1, z2⟩; exact absurd hok z1
    refine lv_istore (lv' := [(7, .int 0), (6, .int 0), (0, .ref b), (1, .ref to), (2, .ref mo), (3, .ref o), (4, .ref od), (5, .int 0)]) hx hb dL_law_876 hl (by decide) rfl (fun ls hl => ?_)
    refine lv_aload_n hx hb dL_law_878 rfl (lv_at hl 4 rfl) ?_
    refine pz_i (va_runV (As := []) (rest := []) ⟨hx, hb, hml, hown, hts⟩ (k_X12_thrown l D k H mo u1 0 (hP.sub [2] rfl) hth) (cwV 0 hts gL_law_X12_thrown rfl rfl rfl (by decide +kernel) ⟨Nat.le_of_ble_eq_true rfl, Nat.le_of_ble_eq_true rfl⟩) ⟨pPc_fb, va_recv hC.1 hP (ci := 13) (q0 := 2) rfl rfl, pPc_go hC⟩ rfl rfl hl.1 rfl (lv_room (Nat.le_of_ble_eq_true rfl)) dL_law_879 ⟨Nat.le_of_ble_eq_true rfl, Nat.le_of_ble_eq_true rfl⟩) hS (fun r4 locs hw_r4 hS => ?_)
    subst hw_r4
    refine lv_iload hx hb dL_law_882 (lv_at hl 1 rfl) ?_
    refine lv_icmp_eq (tgt := 889) hx hb dL_law_884 (by decide) (fun c_884 => ?_) (fun c_884 => absurd (by decide) c_884)
    refine lv_iload hx hb dL_law_889 (lv_at hl 1 rfl) ?_
    refine lv_if_ne (tgt := 906) hx hb dL_law_891 (by decide) (fun c_891 => absurd c_891 (by decide)) (fun c_891 => ?_)
    refine lv_aload_n hx hb dL_law_894 rfl (lv_at hl 5 rfl) ?_
    refine lv_iconst (v := 0) hx hb dL_law_895 (by decide) ?_
    refine va_lald hx hb hC.1 hP 1 1 rfl rfl (vp_in_nI (n := 0) (N := 1) (by decide) (by decide)) dL_law_896 ?_
    refine w_topl (y := 0) hfL ?_
    refine lv_iload hx hb dL_law_897 (lv_at hl 0 rfl) ?_
    refine lv_i2l (v := 0) hx hb dL_law_899 (by decide) ?_
    refine W.lcmp hx hb dL_law_900 ?_
    refine w_top (y := 0) (by decide) ?_
    refine lv_if_eq (tgt := 906) hx hb dL_law_901 (by decide) (fun c_901 => ?_) (fun c_901 => absurd (by decide) c_901)
    refine lv_goto (tgt := 2046) hx hb dL_law_906 (by decide) ?_
    refine W.widen (k := 100000) (n := 1000000) (Nat.le_of_ble_eq_true rfl) (Nat.le_of_ble_eq_true rfl) ?_
    exact law_end ⟨hx, hb, hr, hml, hown, hts0, hX, hbl, hlocks, hgv⟩ hAs hS (lv_sub hl [2, 7] rfl)
  · refine lv_istore (lv' := [(6, .int 1), (0, .ref b), (1, .ref to), (2, .ref mo), (3, .ref o), (4, .ref od), (5, .int 0)]) hx hb dL_law_846 hl (by decide) rfl (fun ls hl => ?_)
    refine lv_aload_n hx hb dL_law_848 rfl (lv_at hl 3 rfl) ?_
    refine lv_aload_n hx hb dL_law_849 rfl (lv_at hl 1 rfl) ?_
    refine lv_iload hx hb dL_law_850 (lv_at hl 6 rfl) ?_
    refine lv_iconst (v := 1) hx hb dL_law_852 (by decide) ?_
    refine lv_iadd hx hb dL_law_853 ?_
    refine w_top (y := 1) (by decide) ?_
    refine va_sld hx hb hX hbl hbA hS (vp_in_nI (n := 1) (N := 6) (by decide) (by decide)) dL_law_854 ?_
    refine w_top (y := xs 1) rfl ?_
    refine lv_aload_n hx hb dL_law_855 rfl (lv_at hl 1 rfl) ?_
    refine lv_iload hx hb dL_law_856 (lv_at hl 6 rfl) ?_
    refine lv_iconst (v := 2) hx hb dL_law_858 (by decide) ?_
    refine lv_iadd hx hb dL_law_859 ?_
    refine w_top (y := 2) (by decide) ?_
    refine va_sld hx hb hX hbl hbA hS (vp_in_nI (n := 2) (N := 6) (by decide) (by decide)) dL_law_860 ?_
    refine w_top (y := xs 2) rfl ?_
    refine lv_aload_n hx hb dL_law_861 rfl (lv_at hl 1 rfl) ?_
    refine lv_iload hx hb dL_law_862 (lv_at hl 6 rfl) ?_
    refine lv_iconst (v := 3) hx hb dL_law_864 (by decide) ?_
    refine lv_iadd hx hb dL_law_865 ?_
    refine w_top (y := 3) (by decide) ?_
    refine va_sld hx hb hX hbl hbA hS (vp_in_nI (n := 3) (N := 6) (by decide) (by decide)) dL_law_866 ?_
    refine w_top (y := xs 3) rfl ?_
    refine lv_aload_n hx hb dL_law_867 rfl (lv_at hl 1 rfl) ?_
    refine lv_iload hx hb dL_law_868 (lv_at hl 6 rfl) ?_
    refine lv_iconst (v := 4) hx hb dL_law_870 (by decide) ?_
    refine lv_iadd hx hb dL_law_871 ?_
    refine w_top (y := 4) (by decide) ?_
    refine va_sld hx hb hX hbl hbA hS (vp_in_nI (n := 4) (N := 6) (by decide) (by decide)) dL_law_872 ?_
    refine w_top (y := xs 4) rfl ?_
    have hPc := hP.sub (ws' := [(mo, .inr (13, [.int 0, .ref (w0 0), .int 0, .ref (w0 1), .int 0, .int 0, .ref (w0 2), .int 0, .ref (w0 3), .ref (w0 4), .int 0])), ((w0 0), .inl (k 5, 3, .inr (.inr (.inr (.inr (fun i => some (w0 (5 + i)))))))), ((w0 5), .inl (k 0, 768, .inl (fun _ => 0))), ((w0 6), .inl (k 0, 768, .inl (fun _ => 0))), ((w0 7), .inl (k 0, 768, .inl (fun _ => 0))), ((w0 1), .inl (k 6, 8, .inr (.inr (.inr (.inr (fun _ => none)))))), ((w0 2), .inl (k 6, 20, .inr (.inr (.inr (.inr (fun _ => none)))))), ((w0 4), .inl (k 6, 6, .inr (.inr (.inr (.inr (fun _ => none))))))]) [0, 1, 2, 3, 4, 5, 6, 7] rfl
    have hDc := hD.sub (ws' := [(mo, .inr (13, [.int 0, .ref (w0 0), .int 0, .ref (w0 1), .int 0, .int 0, .ref (w0 2), .int 0, .ref (w0 3), .ref (w0 4), .int 0])), ((w0 0), .inl (k 5, 3, .inr (.inr (.inr (.inr (fun i => some (w0 (5 + i)))))))), ((w0 5), .inl (k 0, 768, .inl (fun _ => 0))), ((w0 6), .inl (k 0, 768, .inl (fun _ => 0))), ((w0 7), .inl (k 0, 768, .inl (fun _ => 0))), ((w0 1), .inl (k 6, 8, .inr (.inr (.inr (.inr (fun _ => none)))))), ((w0 2), .inl (k 6, 20, .inr (.inr (.inr (.inr (fun _ => none)))))), ((w0 4), .inl (k 6, 6, .inr (.inr (.inr (.inr (fun _ => none))))))]) [0, 1, 2, 3, 4, 5, 6, 7] (by decide) rfl
    have hFc := va_free (wc := [(mo, .inr (13, [.int 0, .ref (w0 0), .int 0, .ref (w0 1), .int 0, .int 0, .ref (w0 2), .int 0, .ref (w0 3), .ref (w0 4), .int 0])), ((w0 0), .inl (k 5, 3, .inr (.inr (.inr (.inr (fun i => some (w0 (5 + i)))))))), ((w0 5), .inl (k 0, 768, .inl (fun _ => 0))), ((w0 6), .inl (k 0, 768, .inl (fun _ => 0))), ((w0 7), .inl (k 0, 768, .inl (fun _ => 0))), ((w0 1), .inl (k 6, 8, .inr (.inr (.inr (.inr (fun _ => none)))))), ((w0 2), .inl (k 6, 20, .inr (.inr (.inr (.inr (fun _ => none)))))), ((w0 4), .inl (k 6, 6, .inr (.inr (.inr (.inr (fun _ => none))))))]) hD hS hA [0, 1, 2, 3, 4, 5, 6, 7] rfl
    refine va_calli (va_runV (As := [.int (xs 1), .int (xs 2), .int (xs 3), .int (xs 4)]) (rest := []) ⟨hx, hb, hml, hown, hts⟩ (k_X12_pattern l D k e0 H.size mo w0 (xs 1) (xs 2) (xs 3) (xs 4)) (cwV 4 hts gL_law_X12_pattern rfl rfl rfl (by decide +kernel) ⟨Nat.le_of_ble_eq_true rfl, Nat.le_of_ble_eq_true rfl⟩) ⟨mPc_fb, va_recv hC.1 hPc (ci := 13) (q0 := 0) rfl rfl, mPc_go hC hHf hS hPc hDc hFc⟩ rfl rfl hl.1 rfl (lv_room (Nat.le_of_ble_eq_true rfl)) dL_law_873 ⟨Nat.le_of_ble_eq_true rfl, Nat.le_of_ble_eq_true rfl⟩) hS (fun q9 _ h9 => hFc q9 h9) hFc (fun r6 u5 t H locs ht hvm hw_r6 hB hz1 hk1 hS => ?_)
    obtain ⟨hP1, hD1⟩ := hB
    rw [ht] at hP1
    obtain ⟨hP, hD⟩ := va_join (wr := [(od, .inl (k 8, 1, .inr (.inr (.inr (.inl (fun _ => 0)))))), (o, .inl (k 1, 1, .inr (.inl uL)))]) (w1 := [(mo, .inr (13, u5))]) hP hD [0, 1, 2, 3, 4, 5, 6, 7] [8, 9] rfl rfl (by decide) (by decide) hk1 hFc hP1 hD1
    have hP : va_P D vwCl [(od, .inl (k 8, 1, .inr (.inr (.inr (.inl (fun _ => 0)))))), (o, .inl (k 1, 1, .inr (.inl uL))), (mo, .inr (13, u5))] H := hP
    have hD : va_D A [(od, .inl (k 8, 1, .inr (.inr (.inr (.inl (fun _ => 0)))))), (o, .inl (k 1, 1, .inr (.inl uL))), (mo, .inr (13, u5))] := hD
    have hth : u5[0]? = some (.int 1) := by rcases hw_r6 with ⟨z1, _⟩ | ⟨_, z1⟩; exact absurd z1 hok; exact z1
    refine lv_istore (lv' := [(7, .int r6), (6, .int 1), (0, .ref b), (1, .ref to), (2, .ref mo), (3, .ref o), (4, .ref od), (5, .int 0)]) hx hb dL_law_876 hl (by decide) rfl (fun ls hl => ?_)
    refine lv_aload_n hx hb dL_law_878 rfl (lv_at hl 4 rfl) ?_
    refine pz_i (va_runV (As := []) (rest := []) ⟨hx, hb, hml, hown, hts⟩ (k_X12_thrown l D k H mo u5 1 (hP.sub [2] rfl) hth) (cwV 0 hts gL_law_X12_thrown rfl rfl rfl (by decide +kernel) ⟨Nat.le_of_ble_eq_true rfl, Nat.le_of_ble_eq_true rfl⟩) ⟨pPc_fb, va_recv hC.1 hP (ci := 13) (q0 := 2) rfl rfl, pPc_go hC⟩ rfl rfl hl.1 rfl (lv_room (Nat.le_of_ble_eq_true rfl)) dL_law_879 ⟨Nat.le_of_ble_eq_true rfl, Nat.le_of_ble_eq_true rfl⟩) hS (fun r8 locs hw_r8 hS => ?_)
    subst hw_r8
    refine lv_iload hx hb dL_law_882 (lv_at hl 1 rfl) ?_
    refine lv_icmp_eq (tgt := 889) hx hb dL_law_884 (by decide) (fun c_884 => ?_) (fun c_884 => absurd (by decide) c_884)
    refine lv_iload hx hb dL_law_889 (lv_at hl 1 rfl) ?_
    refine lv_if_ne (tgt := 906) hx hb dL_law_891 (by decide) (fun c_891 => ?_) (fun c_891 => absurd c_891 (by decide))
    refine lv_goto (tgt := 2046) hx hb dL_law_906 (by decide) ?_
    refine W.widen (k := 100000) (n := 1000000) (Nat.le_of_ble_eq_true rfl) (Nat.le_of_ble_eq_true rfl) ?_
    exact law_end ⟨hx, hb, hr, hml, hown, hts0, hX, hbl, hlocks, hgv⟩ hAs hS (lv_sub hl [2, 7] rfl)

set_option maxHeartbeats 4000000 in
set_option maxRecDepth 100000 in
theorem law_c10 {p : Program} {l : Launch} {e : Env} {s : State} {m : MethodId} {below : List Frame} {meth : Method} {c : Code} {b : Nat} {xs : Nat → Int32} (hst : l.stackTraces = false) (C0 : lw_At p s m meth c b 6 xs) {D : va_G} {k : Nat → ClassId} {e0 to mo o od : Nat} {u0 w0 : Nat → Nat} {A : Nat → Prop} (hA : ∀ q, s.heap.size ≤ q → A q) (hAs : ∀ q, A q → s.heap.size ≤ q) (hC : wCx D k s) (hNc : wNc s) (hHf : wHf e0 A s s.heap) {H : Heap} {locs : List Loc} {ls : Array Slot} (hP : va_P D vwCl (wL k to mo o od e0 u0 w0) H) (hD : va_D A (wL k to mo o od e0 u0 w0)) (hS : va_S A s.heap H locs) (hl : lv_has ls 9 [(0, .ref b), (1, .ref to), (2, .ref mo), (3, .ref o), (4, .ref od), (5, .int 0)]) : W p l e room_1 s m #[Value.ref b] below meth c H locs 100 20000 (lw_Z below #[Value.ref b] s) (F0 m 909 ls []) := by
  obtain ⟨hx, hb, hr, hml, hown, hts0, hX, hbl, hlocks, hgv⟩ := C0
  have hts : ∀ w ∈ wsL_law, w.before #[Value.ref b] s = true := fun w h => hts0 w (wsL_law_in w h)
  have hbA : ¬ A b := fun h9 => absurd (hAs b h9) (Nat.not_le.mpr hbl)
  refine lv_aload_n hx hb dL_law_909 rfl (lv_at hl 1 rfl) ?_
  refine lv_aload_n hx hb dL_law_910 rfl (lv_at hl 0 rfl) ?_
  refine lv_iload hx hb dL_law_911 (lv_at hl 5 rfl) ?_
  refine lv_iconst (v := 1) hx hb dL_law_913 (by decide) ?_
  refine lv_iadd hx hb dL_law_914 ?_
  refine w_top (y := 1) (by decide) ?_
  refine va_sld hx hb hX hbl hbA hS (vp_in_nI (n := 1) (N := 6) (by decide) (by decide)) dL_law_915 ?_
  refine w_top (y := xs 1) rfl ?_
  refine lv_aload_n hx hb dL_law_916 rfl (lv_at hl 0 rfl) ?_
  refine lv_iload hx hb dL_law_917 (lv_at hl 5 rfl) ?_
  refine lv_iconst (v := 2) hx hb dL_law_919 (by decide) ?_
  refine lv_iadd hx hb dL_law_920 ?_
  refine w_top (y := 2) (by decide) ?_
  refine va_sld hx hb hX hbl hbA hS (vp_in_nI (n := 2) (N := 6) (by decide) (by decide)) dL_law_921 ?_
  refine w_top (y := xs 2) rfl ?_
  refine lv_aload_n hx hb dL_law_922 rfl (lv_at hl 0 rfl) ?_
  refine lv_iload hx hb dL_law_923 (lv_at hl 5 rfl) ?_
  refine lv_iconst (v := 3) hx hb dL_law_925 (by decide) ?_
  refine lv_iadd hx hb dL_law_926 ?_
  refine w_top (y := 3) (by decide) ?_
  refine va_sld hx hb hX hbl hbA hS (vp_in_nI (n := 3) (N := 6) (by decide) (by decide)) dL_law_927 ?_
  refine w_top (y := xs 3) rfl ?_
  refine lv_aload_n hx hb dL_law_928 rfl (lv_at hl 0 rfl) ?_
  refine lv_iload hx hb dL_law_929 (lv_at hl 5 rfl) ?_
  refine lv_iconst (v := 4) hx hb dL_law_931 (by decide) ?_
  refine lv_iadd hx hb dL_law_932 ?_
  refine w_top (y := 4) (by decide) ?_
  refine va_sld hx hb hX hbl hbA hS (vp_in_nI (n := 4) (N := 6) (by decide) (by decide)) dL_law_933 ?_
  refine w_top (y := xs 4) rfl ?_
  refine lv_aload_n hx hb dL_law_934 rfl (lv_at hl 0 rfl) ?_
  refine lv_iload hx hb dL_law_935 (lv_at hl 5 rfl) ?_
  refine lv_iconst (v := 5) hx hb dL_law_937 (by decide) ?_
  refine lv_iadd hx hb dL_law_938 ?_
  refine w_top (y := 5) (by decide) ?_
  refine va_sld hx hb hX hbl hbA hS (vp_in_nI (n := 5) (N := 6) (by decide) (by decide)) dL_law_939 ?_
  refine w_top (y := xs 5) rfl ?_
  refine lv_if_eq (tgt := 947) hx hb dL_law_940 (by decide) (fun c_940 => ?_) (fun c_940 => ?_)
  · have g_940 : (xs 5).toInt = 0 := congrArg Int32.toInt c_940
    refine lv_iconst (v := 0) hx hb dL_law_947 (by decide) ?_
    refine lv_aload_n hx hb dL_law_948 rfl (lv_at hl 3 rfl) ?_
    have hPc := hP.sub (ws' := [(to, .inr (12, [.ref (u0 0), .ref (u0 1), .ref (u0 2), .ref (u0 3), .ref (u0 4), .ref (u0 5), .int 0, .int 0, .int 0])), ((u0 0), .inl (k 3, 4, .inr (.inr (.inr (.inr (fun i => some (u0 (6 + i)))))))), ((u0 1), .inr (2, [.int 0, .ref e0, .int 0])), ((u0 2), .inr (2, [.int 0, .ref e0, .int 0])), ((u0 3), .inr (2, [.int 0, .ref e0, .int 0])), ((u0 6), .inr (4, [.ref (u0 10), .ref (u0 14), .int 0, .int 0, .int 0])), ((u0 10), .inl (k 0, 768, .inl (fun _ => 0))), ((u0 14), .inr (8, [.ref (u0 18), .int 1, .ref (u0 22)])), ((u0 18), .inl (k 1, 768, .inr (.inl (fun _ => 0)))), ((u0 7), .inr (4, [.ref (u0 11), .ref (u0 15), .int 0, .int 0, .int 0])), ((u0 11), .inl (k 0, 768, .inl (fun _ => 0))), ((u0 15), .inr (8, [.ref (u0 19), .int 1, .ref (u0 23)])), ((u0 19), .inl (k 1, 768, .inr (.inl (fun _ => 0)))), ((u0 8), .inr (4, [.ref (u0 12), .ref (u0 16), .int 0, .int 0, .int 0])), ((u0 12), .inl (k 0, 768, .inl (fun _ => 0))), ((u0 16), .inr (8, [.ref (u0 20), .int 1, .ref (u0 24)])), ((u0 20), .inl (k 1, 768, .inr (.inl (fun _ => 0)))), ((u0 9), .inr (4, [.ref (u0 13), .ref (u0 17), .int 0, .int 0, .int 0])), ((u0 13), .inl (k 0, 768, .inl (fun _ => 0))), ((u0 17), .inr (8, [.ref (u0 21), .int 1, .ref (u0 25)])), ((u0 21), .inl (k 1, 768, .inr (.inl (fun _ => 0)))), (o, .inl (k 1, 1, .inr (.inl (fun _ => 0))))]) [0, 1, 2, 3, 4, 5, 6, 7, 8, 9, 10, 11, 12, 13, 14, 15, 16, 17, 18, 19, 20, 29] rfl
    have hDc := hD.sub (ws' := [(to, .inr (12, [.ref (u0 0), .ref (u0 1), .ref (u0 2), .ref (u0 3), .ref (u0 4), .ref (u0 5), .int 0, .int 0, .int 0])), ((u0 0), .inl (k 3, 4, .inr (.inr (.inr (.inr (fun i => some (u0 (6 + i)))))))), ((u0 1), .inr (2, [.int 0, .ref e0, .int 0])), ((u0 2), .inr (2, [.int 0, .ref e0, .int 0])), ((u0 3), .inr (2, [.int 0, .ref e0, .int 0])), ((u0 6), .inr (4, [.ref (u0 10), .ref (u0 14), .int 0, .int 0, .int 0])), ((u0 10), .inl (k 0, 768, .inl (fun _ => 0))), ((u0 14), .inr (8, [.ref (u0 18), .int 1, .ref (u0 22)])), ((u0 18), .inl (k 1, 768, .inr (.inl (fun _ => 0)))), ((u0 7), .inr (4, [.ref (u0 11), .ref (u0 15), .int 0, .int 0, .int 0])), ((u0 11), .inl (k 0, 768, .inl (fun _ => 0))), ((u0 15), .inr (8, [.ref (u0 19), .int 1, .ref (u0 23)])), ((u0 19), .inl (k 1, 768, .inr (.inl (fun _ => 0)))), ((u0 8), .inr (4, [.ref (u0 12), .ref (u0 16), .int 0, .int 0, .int 0])), ((u0 12), .inl (k 0, 768, .inl (fun _ => 0))), ((u0 16), .inr (8, [.ref (u0 20), .int 1, .ref (u0 24)])), ((u0 20), .inl (k 1, 768, .inr (.inl (fun _ => 0)))), ((u0 9), .inr (4, [.ref (u0 13), .ref (u0 17), .int 0, .int 0, .int 0])), ((u0 13), .inl (k 0, 768, .inl (fun _ => 0))), ((u0 17), .inr (8, [.ref (u0 21), .int 1, .ref (u0 25)])), ((u0 21), .inl (k 1, 768, .inr (.inl (fun _ => 0)))), (o, .inl (k 1, 1, .inr (.inl (fun _ => 0))))]) [0, 1, 2, 3, 4, 5, 6, 7, 8, 9, 10, 11, 12, 13, 14, 15, 16, 17, 18, 19, 20, 29] (by decide) rfl
    have hFc := va_free (wc := [(to, .inr (12, [.ref (u0 0), .ref (u0 1), .ref (u0 2), .ref (u0 3), .ref (u0 4), .ref (u0 5), .int 0, .int 0, .int 0])), ((u0 0), .inl (k 3, 4, .inr (.inr (.inr (.inr (fun i => some (u0 (6 + i)))))))), ((u0 1), .inr (2, [.int 0, .ref e0, .int 0])), ((u0 2), .inr (2, [.int 0, .ref e0, .int 0])), ((u0 3), .inr (2, [.int 0, .ref e0, .int 0])), ((u0 6), .inr (4, [.ref (u0 10), .ref (u0 14), .int 0, .int 0, .int 0])), ((u0 10), .inl (k 0, 768, .inl (fun _ => 0))), ((u0 14), .inr (8, [.ref (u0 18), .int 1, .ref (u0 22)])), ((u0 18), .inl (k 1, 768, .inr (.inl (fun _ => 0)))), ((u0 7), .inr (4, [.ref (u0 11), .ref (u0 15), .int 0, .int 0, .int 0])), ((u0 11), .inl (k 0, 768, .inl (fun _ => 0))), ((u0 15), .inr (8, [.ref (u0 19), .int 1, .ref (u0 23)])), ((u0 19), .inl (k 1, 768, .inr (.inl (fun _ => 0)))), ((u0 8), .inr (4, [.ref (u0 12), .ref (u0 16), .int 0, .int 0, .int 0])), ((u0 12), .inl (k 0, 768, .inl (fun _ => 0))), ((u0 16), .inr (8, [.ref (u0 20), .int 1, .ref (u0 24)])), ((u0 20), .inl (k 1, 768, .inr (.inl (fun _ => 0)))), ((u0 9), .inr (4, [.ref (u0 13), .ref (u0 17), .int 0, .int 0, .int 0])), ((u0 13), .inl (k 0, 768, .inl (fun _ => 0))), ((u0 17), .inr (8, [.ref (u0 21), .int 1, .ref (u0 25)])), ((u0 21), .inl (k 1, 768, .inr (.inl (fun _ => 0)))), (o, .inl (k 1, 1, .inr (.inl (fun _ => 0))))]) hD hS hA [0, 1, 2, 3, 4, 5, 6, 7, 8, 9, 10, 11, 12, 13, 14, 15, 16, 17, 18, 19, 20, 29] rfl
    refine va_calli (vx_runSW (As := [.ref to, .int (xs 1), .int (xs 2), .int (xs 3), .int (xs 4), .int 0, .ref o]) (rest := []) ⟨hx, hb, hml, hown, hts⟩ (k_L_path l hst D k e0 H.size to o u0 (fun _ => 0) (xs 1) (xs 2) (xs 3) (xs 4) 0 (by decide)) (vx_cwSW 7 hts gL_law_L_path rfl rfl rfl (by decide +kernel) ⟨Nat.le_of_ble_eq_true rfl, Nat.le_of_ble_eq_true rfl⟩) ⟨lPc_fb, lPc_go hC hNc hHf hS hPc hDc hFc⟩ rfl rfl hl.1 rfl (lv_room (Nat.le_of_ble_eq_true rfl)) dL_law_949 ⟨Nat.le_of_ble_eq_true rfl, Nat.le_of_ble_eq_true rfl⟩) hS (fun q9 _ h9 => hFc q9 h9) hFc (fun rL uL t H locs ht hvm hwL hB hz1 hk1 hS => ?_)
    obtain ⟨hP1, hD1⟩ := hB
    rw [ht] at hP1
    obtain ⟨hP, hD⟩ := va_join (wr := [(mo, .inr (13, [.int 0, .ref (w0 0), .int 0, .ref (w0 1), .int 0, .int 0, .ref (w0 2), .int 0, .ref (w0 3), .ref (w0 4), .int 0])), ((w0 0), .inl (k 5, 3, .inr (.inr (.inr (.inr (fun i => some (w0 (5 + i)))))))), ((w0 5), .inl (k 0, 768, .inl (fun _ => 0))), ((w0 6), .inl (k 0, 768, .inl (fun _ => 0))), ((w0 7), .inl (k 0, 768, .inl (fun _ => 0))), ((w0 1), .inl (k 6, 8, .inr (.inr (.inr (.inr (fun _ => none)))))), ((w0 2), .inl (k 6, 20, .inr (.inr (.inr (.inr (fun _ => none)))))), ((w0 4), .inl (k 6, 6, .inr (.inr (.inr (.inr (fun _ => none)))))), (od, .inl (k 8, 1, .inr (.inr (.inr (.inl (fun _ => 0))))))]) (w1 := [(o, .inl (k 1, 1, .inr (.inl uL)))]) hP hD [0, 1, 2, 3, 4, 5, 6, 7, 8, 9, 10, 11, 12, 13, 14, 15, 16, 17, 18, 19, 20, 29] [21, 22, 23, 24, 25, 26, 27, 28, 30] rfl rfl (by decide) (by decide) hk1 hFc hP1 hD1
    have hP : va_P D vwCl [(mo, .inr (13, [.int 0, .ref (w0 0), .int 0, .ref (w0 1), .int 0, .int 0, .ref (w0 2), .int 0, .ref (w0 3), .ref (w0 4), .int 0])), ((w0 0), .inl (k 5, 3, .inr (.inr (.inr (.inr (fun i => some (w0 (5 + i)))))))), ((w0 5), .inl (k 0, 768, .inl (fun _ => 0))), ((w0 6), .inl (k 0, 768, .inl (fun _ => 0))), ((w0 7), .inl (k 0, 768, .inl (fun _ => 0))), ((w0 1), .inl (k 6, 8, .inr (.inr (.inr (.inr (fun _ => none)))))), ((w0 2), .inl (k 6, 20, .inr (.inr (.inr (.inr (fun _ => none)))))), ((w0 4), .inl (k 6, 6, .inr (.inr (.inr (.inr (fun _ => none)))))), (od, .inl (k 8, 1, .inr (.inr (.inr (.inl (fun _ => 0)))))), (o, .inl (k 1, 1, .inr (.inl uL)))] H := hP
    have hD : va_D A [(mo, .inr (13, [.int 0, .ref (w0 0), .int 0, .ref (w0 1), .int 0, .int 0, .ref (w0 2), .int 0, .ref (w0 3), .ref (w0 4), .int 0])), ((w0 0), .inl (k 5, 3, .inr (.inr (.inr (.inr (fun i => some (w0 (5 + i)))))))), ((w0 5), .inl (k 0, 768, .inl (fun _ => 0))), ((w0 6), .inl (k 0, 768, .inl (fun _ => 0))), ((w0 7), .inl (k 0, 768, .inl (fun _ => 0))), ((w0 1), .inl (k 6, 8, .inr (.inr (.inr (.inr (fun _ => none)))))), ((w0 2), .inl (k 6, 20, .inr (.inr (.inr (.inr (fun _ => none)))))), ((w0 4), .inl (k 6, 6, .inr (.inr (.inr (.inr (fun _ => none)))))), (od, .inl (k 8, 1, .inr (.inr (.inr (.inl (fun _ => 0)))))), (o, .inl (k 1, 1, .inr (.inl uL)))] := hD
    rcases hwL with ⟨hok, rfl, hfL⟩ | ⟨hok, rfl⟩
    · refine lv_istore (lv' := [(6, .int 0), (0, .ref b), (1, .ref to), (2, .ref mo), (3, .ref o), (4, .ref od), (5, .int 0)]) hx hb dL_law_952 hl (by decide) rfl (fun ls hl => ?_)
      refine lv_aload_n hx hb dL_law_954 rfl (lv_at hl 3 rfl) ?_
      refine lv_aload_n hx hb dL_law_955 rfl (lv_at hl 1 rfl) ?_
      refine lv_iload hx hb dL_law_956 (lv_at hl 6 rfl) ?_
      refine lv_iconst (v := 1) hx hb dL_law_958 (by decide) ?_
      refine lv_iadd hx hb dL_law_959 ?_
      refine w_top (y := 1) (by decide) ?_
      refine va_sld hx hb hX hbl hbA hS (vp_in_nI (n := 1) (N := 6) (by decide) (by decide)) dL_law_960 ?_
      refine w_top (y := xs 1) rfl ?_
      refine lv_aload_n hx hb dL_law_961 rfl (lv_at hl 1 rfl) ?_
      refine lv_iload hx hb dL_law_962 (lv_at hl 6 rfl) ?_
      refine lv_iconst (v := 2) hx hb dL_law_964 (by decide) ?_
      refine lv_iadd hx hb dL_law_965 ?_
      refine w_top (y := 2) (by decide) ?_
      refine va_sld hx hb hX hbl hbA hS (vp_in_nI (n := 2) (N := 6) (by decide) (by decide)) dL_law_966 ?_
      refine w_top (y := xs 2) rfl ?_
      refine lv_aload_n hx hb dL_law_967 rfl (lv_at hl 1 rfl) ?_
      refine lv_iload hx hb dL_law_968 (lv_at hl 6 rfl) ?_
      refine lv_iconst (v := 3) hx hb dL_law_970 (by decide) ?_
      refine lv_iadd hx hb dL_law_971 ?_
      refine w_top (y := 3) (by decide) ?_
      refine va_sld hx hb hX hbl hbA hS (vp_in_nI (n := 3) (N := 6) (by decide) (by decide)) dL_law_972 ?_
      refine w_top (y := xs 3) rfl ?_
      refine lv_aload_n hx hb dL_law_973 rfl (lv_at hl 1 rfl) ?_
      refine lv_iload hx hb dL_law_974 (lv_at hl 6 rfl) ?_
      refine lv_iconst (v := 4) hx hb dL_law_976 (by decide) ?_
      refine lv_iadd hx hb dL_law_977 ?_
      refine w_top (y := 4) (by decide) ?_
      refine va_sld hx hb hX hbl hbA hS (vp_in_nI (n := 4) (N := 6) (by decide) (by decide)) dL_law_978 ?_
      refine w_top (y := xs 4) rfl ?_
      refine lv_aload_n hx hb dL_law_979 rfl (lv_at hl 1 rfl) ?_
      refine lv_iload hx hb dL_law_980 (lv_at hl 6 rfl) ?_
      refine lv_iconst (v := 5) hx hb dL_law_982 (by decide) ?_
      refine lv_iadd hx hb dL_law_983 ?_
      refine w_top (y := 5) (by decide) ?_
      refine va_sld hx hb hX hbl hbA hS (vp_in_nI (n := 5) (N := 6) (by decide) (by decide)) dL_law_984 ?_
      refine w_top (y := xs 5) rfl ?_
      refine lv_if_eq (tgt := 992) hx hb dL_law_985 (by decide) (fun c_985 => ?_) (fun c_985 => ?_)
      · have g_985 : (xs 5).toInt = 0 := congrArg Int32.toInt c_985
        refine lv_iconst (v := 0) hx hb dL_law_992 (by decide) ?_
        have hPc := hP.sub (ws' := [(mo, .inr (13, [.int 0, .ref (w0 0), .int 0, .ref (w0 1), .int 0, .int 0, .ref (w0 2), .int 0, .ref (w0 3), .ref (w0 4), .int 0])), ((w0 0), .inl (k 5, 3, .inr (.inr (.inr (.inr (fun i => some (w0 (5 + i)))))))), ((w0 5), .inl (k 0, 768, .inl (fun _ => 0))), ((w0 6), .inl (k 0, 768, .inl (fun _ => 0))), ((w0 7), .inl (k 0, 768, .inl (fun _ => 0))), ((w0 1), .inl (k 6, 8, .inr (.inr (.inr (.inr (fun _ => none)))))), ((w0 2), .inl (k 6, 20, .inr (.inr (.inr (.inr (fun _ => none)))))), ((w0 4), .inl (k 6, 6, .inr (.inr (.inr (.inr (fun _ => none))))))]) [0, 1, 2, 3, 4, 5, 6, 7] rfl
        have hDc := hD.sub (ws' := [(mo, .inr (13, [.int 0, .ref (w0 0), .int 0, .ref (w0 1), .int 0, .int 0, .ref (w0 2), .int 0, .ref (w0 3), .ref (w0 4), .int 0])), ((w0 0), .inl (k 5, 3, .inr (.inr (.inr (.inr (fun i => some (w0 (5 + i)))))))), ((w0 5), .inl (k 0, 768, .inl (fun _ => 0))), ((w0 6), .inl (k 0, 768, .inl (fun _ => 0))), ((w0 7), .inl (k 0, 768, .inl (fun _ => 0))), ((w0 1), .inl (k 6, 8, .inr (.inr (.inr (.inr (fun _ => none)))))), ((w0 2), .inl (k 6, 20, .inr (.inr (.inr (.inr (fun _ => none)))))), ((w0 4), .inl (k 6, 6, .inr (.inr (.inr (.inr (fun _ => none))))))]) [0, 1, 2, 3, 4, 5, 6, 7] (by decide) rfl
        have hFc := va_free (wc := [(mo, .inr (13, [.int 0, .ref (w0 0), .int 0, .ref (w0 1), .int 0, .int 0, .ref (w0 2), .int 0, .ref (w0 3), .ref (w0 4), .int 0])), ((w0 0), .inl (k 5, 3, .inr (.inr (.inr (.inr (fun i => some (w0 (5 + i)))))))), ((w0 5), .inl (k 0, 768, .inl (fun _ => 0))), ((w0 6), .inl (k 0, 768, .inl (fun _ => 0))), ((w0 7), .inl (k 0, 768, .inl (fun _ => 0))), ((w0 1), .inl (k 6, 8, .inr (.inr (.inr (.inr (fun _ => none)))))), ((w0 2), .inl (k 6, 20, .inr (.inr (.inr (.inr (fun _ => none)))))), ((w0 4), .inl (k 6, 6, .inr (.inr (.inr (.inr (fun _ => none))))))]) hD hS hA [0, 1, 2, 3, 4, 5, 6, 7] rfl
        refine va_calli (va_runV (As := [.int (xs 1), .int (xs 2), .int (xs 3), .int (xs 4), .int 0]) (rest := []) ⟨hx, hb, hml, hown, hts⟩ (k_X12_path l D k e0 H.size mo w0 (xs 1) (xs 2) (xs 3) (xs 4) 0) (cwV 5 hts gL_law_X12_path rfl rfl rfl (by decide +kernel) ⟨Nat.le_of_ble_eq_true rfl, Nat.le_of_ble_eq_true rfl⟩) ⟨mPc_fb, va_recv hC.1 hPc (ci := 13) (q0 := 0) rfl rfl, mPc_go hC hHf hS hPc hDc hFc⟩ rfl rfl hl.1 rfl (lv_room (Nat.le_of_ble_eq_true rfl)) dL_law_993 ⟨Nat.le_of_ble_eq_true rfl, Nat.le_of_ble_eq_true rfl⟩) hS (fun q9 _ h9 => hFc q9 h9) hFc (fun r2 u1 t H locs ht hvm hw_r2 hB hz1 hk1 hS => ?_)
        obtain ⟨hP1, hD1⟩ := hB
        rw [ht] at hP1
        obtain ⟨hP, hD⟩ := va_join (wr := [(od, .inl (k 8, 1, .inr (.inr (.inr (.inl (fun _ => 0)))))), (o, .inl (k 1, 1, .inr (.inl uL)))]) (w1 := [(mo, .inr (13, u1))]) hP hD [0, 1, 2, 3, 4, 5, 6, 7] [8, 9] rfl rfl (by decide) (by decide) hk1 hFc hP1 hD1
        have hP : va_P D vwCl [(od, .inl (k 8, 1, .inr (.inr (.inr (.inl (fun _ => 0)))))), (o, .inl (k 1, 1, .inr (.inl uL))), (mo, .inr (13, u1))] H := hP
        have hD : va_D A [(od, .inl (k 8, 1, .inr (.inr (.inr (.inl (fun _ => 0)))))), (o, .inl (k 1, 1, .inr (.inl uL))), (mo, .inr (13, u1))] := hD
        obtain ⟨hth, rfl⟩ : u1[0]? = some (.int 0) ∧ r2 = 0 := by rcases hw_r2 with ⟨_, z1, z2⟩ | ⟨z1, _⟩; exact ⟨z1, z2⟩; exact absurd hok z1
        refine lv_istore (lv' := [(7, .int 0), (6, .int 0), (0, .ref b), (1, .ref to), (2, .ref mo), (3, .ref o), (4, .ref od), (5, .int 0)]) hx hb dL_law_996 hl (by decide) rfl (fun ls hl => ?_)
        refine lv_aload_n hx hb dL_law_998 rfl (lv_at hl 4 rfl) ?_
        refine pz_i (va_runV (As := []) (rest := []) ⟨hx, hb, hml, hown, hts⟩ (k_X12_thrown l D k H mo u1 0 (hP.sub [2] rfl) hth) (cwV 0 hts gL_law_X12_thrown rfl rfl rfl (by decide +kernel) ⟨Nat.le_of_ble_eq_true rfl, Nat.le_of_ble_eq_true rfl⟩) ⟨pPc_fb, va_recv hC.1 hP (ci := 13) (q0 := 2) rfl rfl, pPc_go hC⟩ rfl rfl hl.1 rfl (lv_room (Nat.le_of_ble_eq_true rfl)) dL_law_999 ⟨Nat.le_of_ble_eq_true rfl, Nat.le_of_ble_eq_true rfl⟩) hS (fun r4 locs hw_r4 hS => ?_)
        subst hw_r4
        refine lv_iload hx hb dL_law_1002 (lv_at hl 1 rfl) ?_
        refine lv_icmp_eq (tgt := 1009) hx hb dL_law_1004 (by decide) (fun c_1004 => ?_) (fun c_1004 => absurd (by decide) c_1004)
        refine lv_iload hx hb dL_law_1009 (lv_at hl 1 rfl) ?_
        refine lv_if_ne (tgt := 1026) hx hb dL_law_1011 (by decide) (fun c_1011 => absurd c_1011 (by decide)) (fun c_1011 => ?_)
        refine lv_aload_n hx hb dL_law_1014 rfl (lv_at hl 5 rfl) ?_
        refine lv_iconst (v := 0) hx hb dL_law_1015 (by decide) ?_
        refine va_lald hx hb hC.1 hP 1 1 rfl rfl (vp_in_nI (n := 0) (N := 1) (by decide) (by decide)) dL_law_1016 ?_
        refine w_topl (y := 0) hfL ?_
        refine lv_iload hx hb dL_law_1017 (lv_at hl 0 rfl) ?_
        refine lv_i2l (v := 0) hx hb dL_law_1019 (by decide) ?_
        refine W.lcmp hx hb dL_law_1020 ?_
        refine w_top (y := 0) (by decide) ?_
        refine lv_if_eq (tgt := 1026) hx hb dL_law_1021 (by decide) (fun c_1021 => ?_) (fun c_1021 => absurd (by decide) c_1021)
        refine lv_goto (tgt := 2046) hx hb dL_law_1026 (by decide) ?_
        refine W.widen (k := 100000) (n := 1000000) (Nat.le_of_ble_eq_true rfl) (Nat.le_of_ble_eq_true rfl) ?_
        exact law_end ⟨hx, hb, hr, hml, hown, hts0, hX, hbl, hlocks, hgv⟩ hAs hS (lv_sub hl [2, 7] rfl)
      · have g_985 : ¬ (xs 5).toInt = 0 := fun q9 => c_985 (Int32.toInt_inj.mp q9)
        refine lv_iconst (v := 1) hx hb dL_law_988 (by decide) ?_
        refine lv_goto (tgt := 993) hx hb dL_law_989 (by decide) ?_
        have hPc := hP.sub (ws' := [(mo, .inr (13, [.int 0, .ref (w0 0), .int 0, .ref (w0 1), .int 0, .int 0, .ref (w0 2), .int 0, .ref (w0 3), .ref (w0 4), .int 0])), ((w0 0), .inl (k 5, 3, .inr (.inr (.inr (.inr (fun i => some (w0 (5 + i)))))))), ((w0 5), .inl (k 0, 768, .inl (fun _ => 0))), ((w0 6), .inl (k 0, 768, .inl (fun _ => 0))), ((w0 7), .inl (k 0, 768, .inl (fun _ => 0))), ((w0 1), .inl (k 6, 8, .inr (.inr (.inr (.inr (fun _ => none)))))), ((w0 2), .inl (k 6, 20, .inr (.inr (.inr (.inr (fun _ => none)))))), ((w0 4), .inl (k 6, 6, .inr (.inr (.inr (.inr (fun _ => none))))))]) [0, 1, 2, 3, 4, 5, 6, 7] rfl
        have hDc := hD.sub (ws' := [(mo, .inr (13, [.int 0, .ref (w0 0), .int 0, .ref (w0 1), .int 0, .int 0, .ref (w0 2), .int 0, .ref (w0 3), .ref (w0 4), .int 0])), ((w0 0), .inl (k 5, 3, .inr (.inr (.inr (.inr (fun i => some (w0 (5 + i)))))))), ((w0 5), .inl (k 0, 768, .inl (fun _ => 0))), ((w0 6), .inl (k 0, 768, .inl (fun _ => 0))), ((w0 7), .inl (k 0, 768, .inl (fun _ => 0))), ((w0 1), .inl (k 6, 8, .inr (.inr (.inr (.inr (fun _ => none)))))), ((w0 2), .inl (k 6, 20, .inr (.inr (.inr (.inr (fun _ => none)))))), ((w0 4), .inl (k 6, 6, .inr (.inr (.inr (.inr (fun _ => none))))))]) [0, 1, 2, 3, 4, 5, 6, 7] (by decide) rfl
        have hFc := va_free (wc := [(mo, .inr (13, [.int 0, .ref (w0 0), .int 0, .ref (w0 1), .int 0, .int 0, .ref (w0 2), .int 0, .ref (w0 3), .ref (w0 4), .int 0])), ((w0 0), .inl (k 5, 3, .inr (.inr (.inr (.inr (fun i => some (w0 (5 + i)))))))), ((w0 5), .inl (k 0, 768, .inl (fun _ => 0))), ((w0 6), .inl (k 0, 768, .inl (fun _ => 0))), ((w0 7), .inl (k 0, 768, .inl (fun _ => 0))), ((w0 1), .inl (k 6, 8, .inr (.inr (.inr (.inr (fun _ => none)))))), ((w0 2), .inl (k 6, 20, .inr (.inr (.inr (.inr (fun _ => none)))))), ((w0 4), .inl (k 6, 6, .inr (.inr (.inr (.inr (fun _ => none))))))]) hD hS hA [0, 1, 2, 3, 4, 5, 6, 7] rfl
        refine va_calli (va_runV (As := [.int (xs 1), .int (xs 2), .int (xs 3), .int (xs 4), .int 1]) (rest := []) ⟨hx, hb, hml, hown, hts⟩ (k_X12_path l D k e0 H.size mo w0 (xs 1) (xs 2) (xs 3) (xs 4) 1) (cwV 5 hts gL_law_X12_path rfl rfl rfl (by decide +kernel) ⟨Nat.le_of_ble_eq_true rfl, Nat.le_of_ble_eq_true rfl⟩) ⟨mPc_fb, va_recv hC.1 hPc (ci := 13) (q0 := 0) rfl rfl, mPc_go hC hHf hS hPc hDc hFc⟩ rfl rfl hl.1 rfl (lv_room (Nat.le_of_ble_eq_true rfl)) dL_law_993 ⟨Nat.le_of_ble_eq_true rfl, Nat.le_of_ble_eq_true rfl⟩) hS (fun q9 _ h9 => hFc q9 h9) hFc (fun r6 u5 t H locs ht hvm hw_r6 hB hz1 hk1 hS => ?_)
        obtain ⟨hP1, hD1⟩ := hB
        rw [ht] at hP1
        obtain ⟨hP, hD⟩ := va_join (wr := [(od, .inl (k 8, 1, .inr (.inr (.inr (.inl (fun _ => 0)))))), (o, .inl (k 1, 1, .inr (.inl uL)))]) (w1 := [(mo, .inr (13, u5))]) hP hD [0, 1, 2, 3, 4, 5, 6, 7] [8, 9] rfl rfl (by decide) (by decide) hk1 hFc hP1 hD1
        have hP : va_P D vwCl [(od, .inl (k 8, 1, .inr (.inr (.inr (.inl (fun _ => 0)))))), (o, .inl (k 1, 1, .inr (.inl uL))), (mo, .inr (13, u5))] H := hP
        have hD : va_D A [(od, .inl (k 8, 1, .inr (.inr (.inr (.inl (fun _ => 0)))))), (o, .inl (k 1, 1, .inr (.inl uL))), (mo, .inr (13, u5))] := hD
        obtain ⟨hth, rfl⟩ : u5[0]? = some (.int 0) ∧ r6 = 0 := by rcases hw_r6 with ⟨_, z1, z2⟩ | ⟨z1, _⟩; exact ⟨z1, z2⟩; exact absurd hok z1
        refine lv_istore (lv' := [(7, .int 0), (6, .int 0), (0, .ref b), (1, .ref to), (2, .ref mo), (3, .ref o), (4, .ref od), (5, .int 0)]) hx hb dL_law_996 hl (by decide) rfl (fun ls hl => ?_)
        refine lv_aload_n hx hb dL_law_998 rfl (lv_at hl 4 rfl) ?_
        refine pz_i (va_runV (As := []) (rest := []) ⟨hx, hb, hml, hown, hts⟩ (k_X12_thrown l D k H mo u5 0 (hP.sub [2] rfl) hth) (cwV 0 hts gL_law_X12_thrown rfl rfl rfl (by decide +kernel) ⟨Nat.le_of_ble_eq_true rfl, Nat.le_of_ble_eq_true rfl⟩) ⟨pPc_fb, va_recv hC.1 hP (ci := 13) (q0 := 2) rfl rfl, pPc_go hC⟩ rfl rfl hl.1 rfl (lv_room (Nat.le_of_ble_eq_true rfl)) dL_law_999 ⟨Nat.le_of_ble_eq_true rfl, Nat.le_of_ble_eq_true rfl⟩) hS (fun r8 locs hw_r8 hS => ?_)
        subst hw_r8
        refine lv_iload hx hb dL_law_1002 (lv_at hl 1 rfl) ?_
        refine lv_icmp_eq (tgt := 1009) hx hb dL_law_1004 (by decide) (fun c_1004 => ?_) (fun c_1004 => absurd (by decide) c_1004)
        refine lv_iload hx hb dL_law_1009 (lv_at hl 1 rfl) ?_
        refine lv_if_ne (tgt := 1026) hx hb dL_law_1011 (by decide) (fun c_1011 => absurd c_1011 (by decide)) (fun c_1011 => ?_)
        refine lv_aload_n hx hb dL_law_1014 rfl (lv_at hl 5 rfl) ?_
        refine lv_iconst (v := 0) hx hb dL_law_1015 (by decide) ?_
        refine va_lald hx hb hC.1 hP 1 1 rfl rfl (vp_in_nI (n := 0) (N := 1) (by decide) (by decide)) dL_law_1016 ?_
        refine w_topl (y := 0) hfL ?_
        refine lv_iload hx hb dL_law_1017 (lv_at hl 0 rfl) ?_
        refine lv_i2l (v := 0) hx hb dL_law_1019 (by decide) ?_
        refine W.lcmp hx hb dL_law_1020 ?_
        refine w_top (y := 0) (by decide) ?_
        refine lv_if_eq (tgt := 1026) hx hb dL_law_1021 (by decide) (fun c_1021 => ?_) (fun c_1021 => absurd (by decide) c_1021)
        refine lv_goto (tgt := 2046) hx hb dL_law_1026 (by decide) ?_
        refine W.widen (k := 100000) (n := 1000000) (Nat.le_of_ble_eq_true rfl) (Nat.le_of_ble_eq_true rfl) ?_
        exact law_end ⟨hx, hb, hr, hml, hown, hts0, hX, hbl, hlocks, hgv⟩ hAs hS (lv_sub hl [2, 7] rfl)
    · refine lv_istore (lv' := [(6, .int 1), (0, .ref b), (1, .ref to), (2, .ref mo), (3, .ref o), (4, .ref od), (5, .int 0)]) hx hb dL_law_952 hl (by decide) rfl (fun ls hl => ?_)
      refine lv_aload_n hx hb dL_law_954 rfl (lv_at hl 3 rfl) ?_
      refine lv_aload_n hx hb dL_law_955 rfl (lv_at hl 1 rfl) ?_
      refine lv_iload hx hb dL_law_956 (lv_at hl 6 rfl) ?_
      refine lv_iconst (v := 1) hx hb dL_law_958 (by decide) ?_
      refine lv_iadd hx hb dL_law_959 ?_
      refine w_top (y := 1) (by decide) ?_
      refine va_sld hx hb hX hbl hbA hS (vp_in_nI (n := 1) (N := 6) (by decide) (by decide)) dL_law_960 ?_
      refine w_top (y := xs 1) rfl ?_
      refine lv_aload_n hx hb dL_law_961 rfl (lv_at hl 1 rfl) ?_
      refine lv_iload hx hb dL_law_962 (lv_at hl 6 rfl) ?_
      refine lv_iconst (v := 2) hx hb dL_law_964 (by decide) ?_
      refine lv_iadd hx hb dL_law_965 ?_
      refine w_top (y := 2) (by decide) ?_
      refine va_sld hx hb hX hbl hbA hS (vp_in_nI (n := 2) (N := 6) (by decide) (by decide)) dL_law_966 ?_
      refine w_top (y := xs 2) rfl ?_
      refine lv_aload_n hx hb dL_law_967 rfl (lv_at hl 1 rfl) ?_
      refine lv_iload hx hb dL_law_968 (lv_at hl 6 rfl) ?_
      refine lv_iconst (v := 3) hx hb dL_law_970 (by decide) ?_
      refine lv_iadd hx hb dL_law_971 ?_
      refine w_top (y := 3) (by decide) ?_
      refine va_sld hx hb hX hbl hbA hS (vp_in_nI (n := 3) (N := 6) (by decide) (by decide)) dL_law_972 ?_
      refine w_top (y := xs 3) rfl ?_
      refine lv_aload_n hx hb dL_law_973 rfl (lv_at hl 1 rfl) ?_
      refine lv_iload hx hb dL_law_974 (lv_at hl 6 rfl) ?_
      refine lv_iconst (v := 4) hx hb dL_law_976 (by decide) ?_
      refine lv_iadd hx hb dL_law_977 ?_
      refine w_top (y := 4) (by decide) ?_
      refine va_sld hx hb hX hbl hbA hS (vp_in_nI (n := 4) (N := 6) (by decide) (by decide)) dL_law_978 ?_
      refine w_top (y := xs 4) rfl ?_
      refine lv_aload_n hx hb dL_law_979 rfl (lv_at hl 1 rfl) ?_
      refine lv_iload hx hb dL_law_980 (lv_at hl 6 rfl) ?_
      refine lv_iconst (v := 5) hx hb dL_law_982 (by decide) ?_
      refine lv_iadd hx hb dL_law_983 ?_
      refine w_top (y := 5) (by decide) ?_
      refine va_sld hx hb hX hbl hbA hS (vp_in_nI (n := 5) (N := 6) (by decide) (by decide)) dL_law_984 ?_
      refine w_top (y := xs 5) rfl ?_
      refine lv_if_eq (tgt := 992) hx hb dL_law_985 (by decide) (fun c_985 => ?_) (fun c_985 => ?_)
      · have g_985 : (xs 5).toInt = 0 := congrArg Int32.toInt c_985
        refine lv_iconst (v := 0) hx hb dL_law_992 (by decide) ?_
        have hPc := hP.sub (ws' := [(mo, .inr (13, [.int 0, .ref (w0 0), .int 0, .ref (w0 1), .int 0, .int 0, .ref (w0 2), .int 0, .ref (w0 3), .ref (w0 4), .int 0])), ((w0 0), .inl (k 5, 3, .inr (.inr (.inr (.inr (fun i => some (w0 (5 + i)))))))), ((w0 5), .inl (k 0, 768, .inl (fun _ => 0))), ((w0 6), .inl (k 0, 768, .inl (fun _ => 0))), ((w0 7), .inl (k 0, 768, .inl (fun _ => 0))), ((w0 1), .inl (k 6, 8, .inr (.inr (.inr (.inr (fun _ => none)))))), ((w0 2), .inl (k 6, 20, .inr (.inr (.inr (.inr (fun _ => none)))))), ((w0 4), .inl (k 6, 6, .inr (.inr (.inr (.inr (fun _ => none))))))]) [0, 1, 2, 3, 4, 5, 6, 7] rfl
        have hDc := hD.sub (ws' := [(mo, .inr (13, [.int 0, .ref (w0 0), .int 0, .ref (w0 1), .int 0, .int 0, .ref (w0 2), .int 0, .ref (w0 3), .ref (w0 4), .int 0])), ((w0 0), .inl (k 5, 3, .inr (.inr (.inr (.inr (fun i => some (w0 (5 + i)))))))), ((w0 5), .inl (k 0, 768, .inl (fun _ => 0))), ((w0 6), .inl (k 0, 768, .inl (fun _ => 0))), ((w0 7), .inl (k 0, 768, .inl (fun _ => 0))), ((w0 1), .inl (k 6, 8, .inr (.inr (.inr (.inr (fun _ => none)))))), ((w0 2), .inl (k 6, 20, .inr (.inr (.inr (.inr (fun _ => none)))))), ((w0 4), .inl (k 6, 6, .inr (.inr (.inr (.inr (fun _ => none))))))]) [0, 1, 2, 3, 4, 5, 6, 7] (by decide) rfl
        have hFc := va_free (wc := [(mo, .inr (13, [.int 0, .ref (w0 0), .int 0, .ref (w0 1), .int 0, .int 0, .ref (w0 2), .int 0, .ref (w0 3), .ref (w0 4), .int 0])), ((w0 0), .inl (k 5, 3, .inr (.inr (.inr (.inr (fun i => some (w0 (5 + i)))))))), ((w0 5), .inl (k 0, 768, .inl (fun _ => 0))), ((w0 6), .inl (k 0, 768, .inl (fun _ => 0))), ((w0 7), .inl (k 0, 768, .inl (fun _ => 0))), ((w0 1), .inl (k 6, 8, .inr (.inr (.inr (.inr (fun _ => none)))))), ((w0 2), .inl (k 6, 20, .inr (.inr (.inr (.inr (fun _ => none)))))), ((w0 4), .inl (k 6, 6, .inr (.inr (.inr (.inr (fun _ => none))))))]) hD hS hA [0, 1, 2, 3, 4, 5, 6, 7] rfl
        refine va_calli (va_runV (As := [.int (xs 1), .int (xs 2), .int (xs 3), .int (xs 4), .int 0]) (rest := []) ⟨hx, hb, hml, hown, hts⟩ (k_X12_path l D k e0 H.size mo w0 (xs 1) (xs 2) (xs 3) (xs 4) 0) (cwV 5 hts gL_law_X12_path rfl rfl rfl (by decide +kernel) ⟨Nat.le_of_ble_eq_true rfl, Nat.le_of_ble_eq_true rfl⟩) ⟨mPc_fb, va_recv hC.1 hPc (ci := 13) (q0 := 0) rfl rfl, mPc_go hC hHf hS hPc hDc hFc⟩ rfl rfl hl.1 rfl (lv_room (Nat.le_of_ble_eq_true rfl)) dL_law_993 ⟨Nat.le_of_ble_eq_true rfl, Nat.le_of_ble_eq_true rfl⟩) hS (fun q9 _ h9 => hFc q9 h9) hFc (fun r10 u9 t H locs ht hvm hw_r10 hB hz1 hk1 hS => ?_)
        obtain ⟨hP1, hD1⟩ := hB
        rw [ht] at hP1
        obtain ⟨hP, hD⟩ := va_join (wr := [(od, .inl (k 8, 1, .inr (.inr (.inr (.inl (fun _ => 0)))))), (o, .inl (k 1, 1, .inr (.inl uL)))]) (w1 := [(mo, .inr (13, u9))]) hP hD [0, 1, 2, 3, 4, 5, 6, 7] [8, 9] rfl rfl (by decide) (by decide) hk1 hFc hP1 hD1
        have hP : va_P D vwCl [(od, .inl (k 8, 1, .inr (.inr (.inr (.inl (fun _ => 0)))))), (o, .inl (k 1, 1, .inr (.inl uL))), (mo, .inr (13, u9))] H := hP
        have hD : va_D A [(od, .inl (k 8, 1, .inr (.inr (.inr (.inl (fun _ => 0)))))), (o, .inl (k 1, 1, .inr (.inl uL))), (mo, .inr (13, u9))] := hD
        have hth : u9[0]? = some (.int 1) := by rcases hw_r10 with ⟨z1, _⟩ | ⟨_, z1⟩; exact absurd z1 hok; exact z1
        refine lv_istore (lv' := [(7, .int r10), (6, .int 1), (0, .ref b), (1, .ref to), (2, .ref mo), (3, .ref o), (4, .ref od), (5, .int 0)]) hx hb dL_law_996 hl (by decide) rfl (fun ls hl => ?_)
        refine lv_aload_n hx hb dL_law_998 rfl (lv_at hl 4 rfl) ?_
        refine pz_i (va_runV (As := []) (rest := []) ⟨hx, hb, hml, hown, hts⟩ (k_X12_thrown l D k H mo u9 1 (hP.sub [2] rfl) hth) (cwV 0 hts gL_law_X12_thrown rfl rfl rfl (by decide +kernel) ⟨Nat.le_of_ble_eq_true rfl, Nat.le_of_ble_eq_true rfl⟩) ⟨pPc_fb, va_recv hC.1 hP (ci := 13) (q0 := 2) rfl rfl, pPc_go hC⟩ rfl rfl hl.1 rfl (lv_room (Nat.le_of_ble_eq_true rfl)) dL_law_999 ⟨Nat.le_of_ble_eq_true rfl, Nat.le_of_ble_eq_true rfl⟩) hS (fun r12 locs hw_r12 hS => ?_)
        subst hw_r12
        refine lv_iload hx hb dL_law_1002 (lv_at hl 1 rfl) ?_
        refine lv_icmp_eq (tgt := 1009) hx hb dL_law_1004 (by decide) (fun c_1004 => ?_) (fun c_1004 => absurd (by decide) c_1004)
        refine lv_iload hx hb dL_law_1009 (lv_at hl 1 rfl) ?_
        refine lv_if_ne (tgt := 1026) hx hb dL_law_1011 (by decide) (fun c_1011 => ?_) (fun c_1011 => absurd c_1011 (by decide))
        refine lv_goto (tgt := 2046) hx hb dL_law_1026 (by decide) ?_
        refine W.widen (k := 100000) (n := 1000000) (Nat.le_of_ble_eq_true rfl) (Nat.le_of_ble_eq_true rfl) ?_
        exact law_end ⟨hx, hb, hr, hml, hown, hts0, hX, hbl, hlocks, hgv⟩ hAs hS (lv_sub hl [2, 7] rfl)
      · have g_985 : ¬ (xs 5).toInt = 0 := fun q9 => c_985 (Int32.toInt_inj.mp q9)
        refine lv_iconst (v := 1) hx hb dL_law_988 (by decide) ?_
        refine lv_goto (tgt := 993) hx hb dL_law_989 (by decide) ?_
        have hPc := hP.sub (ws' := [(mo, .inr (13, [.int 0, .ref (w0 0), .int 0, .ref (w0 1), .int 0, .int 0, .ref (w0 2), .int 0, .ref (w0 3), .ref (w0 4), .int 0])), ((w0 0), .inl (k 5, 3, .inr (.inr (.inr (.inr (fun i => some (w0 (5 + i)))))))), ((w0 5), .inl (k 0, 768, .inl (fun _ => 0))), ((w0 6), .inl (k 0, 768, .inl (fun _ => 0))), ((w0 7), .inl (k 0, 768, .inl (fun _ => 0))), ((w0 1), .inl (k 6, 8, .inr (.inr (.inr (.inr (fun _ => none)))))), ((w0 2), .inl (k 6, 20, .inr (.inr (.inr (.inr (fun _ => none)))))), ((w0 4), .inl (k 6, 6, .inr (.inr (.inr (.inr (fun _ => none))))))]) [0, 1, 2, 3, 4, 5, 6, 7] rfl
        have hDc := hD.sub (ws' := [(mo, .inr (13, [.int 0, .ref (w0 0), .int 0, .ref (w0 1), .int 0, .int 0, .ref (w0 2), .int 0, .ref (w0 3), .ref (w0 4), .int 0])), ((w0 0), .inl (k 5, 3, .inr (.inr (.inr (.inr (fun i => some (w0 (5 + i)))))))), ((w0 5), .inl (k 0, 768, .inl (fun _ => 0))), ((w0 6), .inl (k 0, 768, .inl (fun _ => 0))), ((w0 7), .inl (k 0, 768, .inl (fun _ => 0))), ((w0 1), .inl (k 6, 8, .inr (.inr (.inr (.inr (fun _ => none)))))), ((w0 2), .inl (k 6, 20, .inr (.inr (.inr (.inr (fun _ => none)))))), ((w0 4), .inl (k 6, 6, .inr (.inr (.inr (.inr (fun _ => none))))))]) [0, 1, 2, 3, 4, 5, 6, 7] (by decide) rfl
        have hFc := va_free (wc := [(mo, .inr (13, [.int 0, .ref (w0 0), .int 0, .ref (w0 1), .int 0, .int 0, .ref (w0 2), .int 0, .ref (w0 3), .ref (w0 4), .int 0])), ((w0 0), .inl (k 5, 3, .inr (.inr (.inr (.inr (fun i => some (w0 (5 + i)))))))), ((w0 5), .inl (k 0, 768, .inl (fun _ => 0))), ((w0 6), .inl (k 0, 768, .inl (fun _ => 0))), ((w0 7), .inl (k 0, 768, .inl (fun _ => 0))), ((w0 1), .inl (k 6, 8, .inr (.inr (.inr (.inr (fun _ => none)))))), ((w0 2), .inl (k 6, 20, .inr (.inr (.inr (.inr (fun _ => none)))))), ((w0 4), .inl (k 6, 6, .inr (.inr (.inr (.inr (fun _ => none))))))]) hD hS hA [0, 1, 2, 3, 4, 5, 6, 7] rfl
        refine va_calli (va_runV (As := [.int (xs 1), .int (xs 2), .int (xs 3), .int (xs 4), .int 1]) (rest := []) ⟨hx, hb, hml, hown, hts⟩ (k_X12_path l D k e0 H.size mo w0 (xs 1) (xs 2) (xs 3) (xs 4) 1) (cwV 5 hts gL_law_X12_path rfl rfl rfl (by decide +kernel) ⟨Nat.le_of_ble_eq_true rfl, Nat.le_of_ble_eq_true rfl⟩) ⟨mPc_fb, va_recv hC.1 hPc (ci := 13) (q0 := 0) rfl rfl, mPc_go hC hHf hS hPc hDc hFc⟩ rfl rfl hl.1 rfl (lv_room (Nat.le_of_ble_eq_true rfl)) dL_law_993 ⟨Nat.le_of_ble_eq_true rfl, Nat.le_of_ble_eq_true rfl⟩) hS (fun q9 _ h9 => hFc q9 h9) hFc (fun r14 u13 t H locs ht hvm hw_r14 hB hz1 hk1 hS => ?_)
        obtain ⟨hP1, hD1⟩ := hB
        rw [ht] at hP1
        obtain ⟨hP, hD⟩ := va_join (wr := [(od, .inl (k 8, 1, .inr (.inr (.inr (.inl (fun _ => 0)))))), (o, .inl (k 1, 1, .inr (.inl uL)))]) (w1 := [(mo, .inr (13, u13))]) hP hD [0, 1, 2, 3, 4, 5, 6, 7] [8, 9] rfl rfl (by decide) (by decide) hk1 hFc hP1 hD1
        have hP : va_P D vwCl [(od, .inl (k 8, 1, .inr (.inr (.inr (.inl (fun _ => 0)))))), (o, .inl (k 1, 1, .inr (.inl uL))), (mo, .inr (13, u13))] H := hP
        have hD : va_D A [(od, .inl (k 8, 1, .inr (.inr (.inr (.inl (fun _ => 0)))))), (o, .inl (k 1, 1, .inr (.inl uL))), (mo, .inr (13, u13))] := hD
        have hth : u13[0]? = some (.int 1) := by rcases hw_r14 with ⟨z1, _⟩ | ⟨_, z1⟩; exact absurd z1 hok; exact z1
        refine lv_istore (lv' := [(7, .int r14), (6, .int 1), (0, .ref b), (1, .ref to), (2, .ref mo), (3, .ref o), (4, .ref od), (5, .int 0)]) hx hb dL_law_996 hl (by decide) rfl (fun ls hl => ?_)
        refine lv_aload_n hx hb dL_law_998 rfl (lv_at hl 4 rfl) ?_
        refine pz_i (va_runV (As := []) (rest := []) ⟨hx, hb, hml, hown, hts⟩ (k_X12_thrown l D k H mo u13 1 (hP.sub [2] rfl) hth) (cwV 0 hts gL_law_X12_thrown rfl rfl rfl (by decide +kernel) ⟨Nat.le_of_ble_eq_true rfl, Nat.le_of_ble_eq_true rfl⟩) ⟨pPc_fb, va_recv hC.1 hP (ci := 13) (q0 := 2) rfl rfl, pPc_go hC⟩ rfl rfl hl.1 rfl (lv_room (Nat.le_of_ble_eq_true rfl)) dL_law_999 ⟨Nat.le_of_ble_eq_true rfl, Nat.le_of_ble_eq_true rfl⟩) hS (fun r16 locs hw_r16 hS => ?_)
        subst hw_r16
        refine lv_iload hx hb dL_law_1002 (lv_at hl 1 rfl) ?_
        refine lv_icmp_eq (tgt := 1009) hx hb dL_law_1004 (by decide) (fun c_1004 => ?_) (fun c_1004 => absurd (by decide) c_1004)
        refine lv_iload hx hb dL_law_1009 (lv_at hl 1 rfl) ?_
        refine lv_if_ne (tgt := 1026) hx hb dL_law_1011 (by decide) (fun c_1011 => ?_) (fun c_1011 => absurd c_1011 (by decide))
        refine lv_goto (tgt := 2046) hx hb dL_law_1026 (by decide) ?_
        refine W.widen (k := 100000) (n := 1000000) (Nat.le_of_ble_eq_true rfl) (Nat.le_of_ble_eq_true rfl) ?_
        exact law_end ⟨hx, hb, hr, hml, hown, hts0, hX, hbl, hlocks, hgv⟩ hAs hS (lv_sub hl [2, 7] rfl)
  · have g_940 : ¬ (xs 5).toInt = 0 := fun q9 => c_940 (Int32.toInt_inj.mp q9)
    refine lv_iconst (v := 1) hx hb dL_law_943 (by decide) ?_
    refine lv_goto (tgt := 948) hx hb dL_law_944 (by decide) ?_
    refine lv_aload_n hx hb dL_law_948 rfl (lv_at hl 3 rfl) ?_
    have hPc := hP.sub (ws' := [(to, .inr (12, [.ref (u0 0), .ref (u0 1), .ref (u0 2), .ref (u0 3), .ref (u0 4), .ref (u0 5), .int 0, .int 0, .int 0])), ((u0 0), .inl (k 3, 4, .inr (.inr (.inr (.inr (fun i => some (u0 (6 + i)))))))), ((u0 1), .inr (2, [.int 0, .ref e0, .int 0])), ((u0 2), .inr (2, [.int 0, .ref e0, .int 0])), ((u0 3), .inr (2, [.int 0, .ref e0, .int 0])), ((u0 6), .inr (4, [.ref (u0 10), .ref (u0 14), .int 0, .int 0, .int 0])), ((u0 10), .inl (k 0, 768, .inl (fun _ => 0))), ((u0 14), .inr (8, [.ref (u0 18), .int 1, .ref (u0 22)])), ((u0 18), .inl (k 1, 768, .inr (.inl (fun _ => 0)))), ((u0 7), .inr (4, [.ref (u0 11), .ref (u0 15), .int 0, .int 0, .int 0])), ((u0 11), .inl (k 0, 768, .inl (fun _ => 0))), ((u0 15), .inr (8, [.ref (u0 19), .int 1, .ref (u0 23)])), ((u0 19), .inl (k 1, 768, .inr (.inl (fun _ => 0)))), ((u0 8), .inr (4, [.ref (u0 12), .ref (u0 16), .int 0, .int 0, .int 0])), ((u0 12), .inl (k 0, 768, .inl (fun _ => 0))), ((u0 16), .inr (8, [.ref (u0 20), .int 1, .ref (u0 24)])), ((u0 20), .inl (k 1, 768, .inr (.inl (fun _ => 0)))), ((u0 9), .inr (4, [.ref (u0 13), .ref (u0 17), .int 0, .int 0, .int 0])), ((u0 13), .inl (k 0, 768, .inl (fun _ => 0))), ((u0 17), .inr (8, [.ref (u0 21), .int 1, .ref (u0 25)])), ((u0 21), .inl (k 1, 768, .inr (.inl (fun _ => 0)))), (o, .inl (k 1, 1, .inr (.inl (fun _ => 0))))]) [0, 1, 2, 3, 4, 5, 6, 7, 8, 9, 10, 11, 12, 13, 14, 15, 16, 17, 18, 19, 20, 29] rfl
    have hDc := hD.sub (ws' := [(to, .inr (12, [.ref (u0 0), .ref (u0 1), .ref (u0 2), .ref (u0 3), .ref (u0 4), .ref (u0 5), .int 0, .int 0, .int 0])), ((u0 0), .inl (k 3, 4, .inr (.inr (.inr (.inr (fun i => some (u0 (6 + i)))))))), ((u0 1), .inr (2, [.int 0, .ref e0, .int 0])), ((u0 2), .inr (2, [.int 0, .ref e0, .int 0])), ((u0 3), .inr (2, [.int 0, .ref e0, .int 0])), ((u0 6), .inr (4, [.ref (u0 10), .ref (u0 14), .int 0, .int 0, .int 0])), ((u0 10), .inl (k 0, 768, .inl (fun _ => 0))), ((u0 14), .inr (8, [.ref (u0 18), .int 1, .ref (u0 22)])), ((u0 18), .inl (k 1, 768, .inr (.inl (fun _ => 0)))), ((u0 7), .inr (4, [.ref (u0 11), .ref (u0 15), .int 0, .int 0, .int 0])), ((u0 11), .inl (k 0, 768, .inl (fun _ => 0))), ((u0 15), .inr (8, [.ref (u0 19), .int 1, .ref (u0 23)])), ((u0 19), .inl (k 1, 768, .inr (.inl (fun _ => 0)))), ((u0 8), .inr (4, [.ref (u0 12), .ref (u0 16), .int 0, .int 0, .int 0])), ((u0 12), .inl (k 0, 768, .inl (fun _ => 0))), ((u0 16), .inr (8, [.ref (u0 20), .int 1, .ref (u0 24)])), ((u0 20), .inl (k 1, 768, .inr (.inl (fun _ => 0)))), ((u0 9), .inr (4, [.ref (u0 13), .ref (u0 17), .int 0, .int 0, .int 0])), ((u0 13), .inl (k 0, 768, .inl (fun _ => 0))), ((u0 17), .inr (8, [.ref (u0 21), .int 1, .ref (u0 25)])), ((u0 21), .inl (k 1, 768, .inr (.inl (fun _ => 0)))), (o, .inl (k 1, 1, .inr (.inl (fun _ => 0))))]) [0, 1, 2, 3, 4, 5, 6, 7, 8, 9, 10, 11, 12, 13, 14, 15, 16, 17, 18, 19, 20, 29] (by decide) rfl
    have hFc := va_free (wc := [(to, .inr (12, [.ref (u0 0), .ref (u0 1), .ref (u0 2), .ref (u0 3), .ref (u0 4), .ref (u0 5), .int 0, .int 0, .int 0])), ((u0 0), .inl (k 3, 4, .inr (.inr (.inr (.inr (fun i => some (u0 (6 + i)))))))), ((u0 1), .inr (2, [.int 0, .ref e0, .int 0])), ((u0 2), .inr (2, [.int 0, .ref e0, .int 0])), ((u0 3), .inr (2, [.int 0, .ref e0, .int 0])), ((u0 6), .inr (4, [.ref (u0 10), .ref (u0 14), .int 0, .int 0, .int 0])), ((u0 10), .inl (k 0, 768, .inl (fun _ => 0))), ((u0 14), .inr (8, [.ref (u0 18), .int 1, .ref (u0 22)])), ((u0 18), .inl (k 1, 768, .inr (.inl (fun _ => 0)))), ((u0 7), .inr (4, [.ref (u0 11), .ref (u0 15), .int 0, .int 0, .int 0])), ((u0 11), .inl (k 0, 768, .inl (fun _ => 0))), ((u0 15), .inr (8, [.ref (u0 19), .int 1, .ref (u0 23)])), ((u0 19), .inl (k 1, 768, .inr (.inl (fun _ => 0)))), ((u0 8), .inr (4, [.ref (u0 12), .ref (u0 16), .int 0, .int 0, .int 0])), ((u0 12), .inl (k 0, 768, .inl (fun _ => 0))), ((u0 16), .inr (8, [.ref (u0 20), .int 1, .ref (u0 24)])), ((u0 20), .inl (k 1, 768, .inr (.inl (fun _ => 0)))), ((u0 9), .inr (4, [.ref (u0 13), .ref (u0 17), .int 0, .int 0, .int 0])), ((u0 13), .inl (k 0, 768, .inl (fun _ => 0))), ((u0 17), .inr (8, [.ref (u0 21), .int 1, .ref (u0 25)])), ((u0 21), .inl (k 1, 768, .inr (.inl (fun _ => 0)))), (o, .inl (k 1, 1, .inr (.inl (fun _ => 0))))]) hD hS hA [0, 1, 2, 3, 4, 5, 6, 7, 8, 9, 10, 11, 12, 13, 14, 15, 16, 17, 18, 19, 20, 29] rfl
    refine va_calli (vx_runSW (As := [.ref to, .int (xs 1), .int (xs 2), .int (xs 3), .int (xs 4), .int 1, .ref o]) (rest := []) ⟨hx, hb, hml, hown, hts⟩ (k_L_path l hst D k e0 H.size to o u0 (fun _ => 0) (xs 1) (xs 2) (xs 3) (xs 4) 1 (by decide)) (vx_cwSW 7 hts gL_law_L_path rfl rfl rfl (by decide +kernel) ⟨Nat.le_of_ble_eq_true rfl, Nat.le_of_ble_eq_true rfl⟩) ⟨lPc_fb, lPc_go hC hNc hHf hS hPc hDc hFc⟩ rfl rfl hl.1 rfl (lv_room (Nat.le_of_ble_eq_true rfl)) dL_law_949 ⟨Nat.le_of_ble_eq_true rfl, Nat.le_of_ble_eq_true rfl⟩) hS (fun q9 _ h9 => hFc q9 h9) hFc (fun rL uL t H locs ht hvm hwL hB hz1 hk1 hS => ?_)
    obtain ⟨hP1, hD1⟩ := hB
    rw [ht] at hP1
    obtain ⟨hP, hD⟩ := va_join (wr := [(mo, .inr (13, [.int 0, .ref (w0 0), .int 0, .ref (w0 1), .int 0, .int 0, .ref (w0 2), .int 0, .ref (w0 3), .ref (w0 4), .int 0])), ((w0 0), .inl (k 5, 3, .inr (.inr (.inr (.inr (fun i => some (w0 (5 + i)))))))), ((w0 5), .inl (k 0, 768, .inl (fun _ => 0))), ((w0 6), .inl (k 0, 768, .inl (fun _ => 0))), ((w0 7), .inl (k 0, 768, .inl (fun _ => 0))), ((w0 1), .inl (k 6, 8, .inr (.inr (.inr (.inr (fun _ => none)))))), ((w0 2), .inl (k 6, 20, .inr (.inr (.inr (.inr (fun _ => none)))))), ((w0 4), .inl (k 6, 6, .inr (.inr (.inr (.inr (fun _ => none)))))), (od, .inl (k 8, 1, .inr (.inr (.inr (.inl (fun _ => 0))))))]) (w1 := [(o, .inl (k 1, 1, .inr (.inl uL)))]) hP hD [0, 1, 2, 3, 4, 5, 6, 7, 8, 9, 10, 11, 12, 13, 14, 15, 16, 17, 18, 19, 20, 29] [21, 22, 23, 24, 25, 26, 27, 28, 30] rfl rfl (by decide) (by decide) hk1 hFc hP1 hD1
    have hP : va_P D vwCl [(mo, .inr (13, [.int 0, .ref (w0 0), .int 0, .ref (w0 1), .int 0, .int 0, .ref (w0 2), .int 0, .ref (w0 3), .ref (w0 4), .int 0])), ((w0 0), .inl (k 5, 3, .inr (.inr (.inr (.inr (fun i => some (w0 (5 + i)))))))), ((w0 5), .inl (k 0, 768, .inl (fun _ => 0))), ((w0 6), .inl (k 0, 768, .inl (fun _ => 0))), ((w0 7), .inl (k 0, 768, .inl (fun _ => 0))), ((w0 1), .inl (k 6, 8, .inr (.inr (.inr (.inr (fun _ => none)))))), ((w0 2), .inl (k 6, 20, .inr (.inr (.inr (.inr (fun _ => none)))))), ((w0 4), .inl (k 6, 6, .inr (.inr (.inr (.inr (fun _ => none)))))), (od, .inl (k 8, 1, .inr (.inr (.inr (.inl (fun _ => 0)))))), (o, .inl (k 1, 1, .inr (.inl uL)))] H := hP
    have hD : va_D A [(mo, .inr (13, [.int 0, .ref (w0 0), .int 0, .ref (w0 1), .int 0, .int 0, .ref (w0 2), .int 0, .ref (w0 3), .ref (w0 4), .int 0])), ((w0 0), .inl (k 5, 3, .inr (.inr (.inr (.inr (fun i => some (w0 (5 + i)))))))), ((w0 5), .inl (k 0, 768, .inl (fun _ => 0))), ((w0 6), .inl (k 0, 768, .inl (fun _ => 0))), ((w0 7), .inl (k 0, 768, .inl (fun _ => 0))), ((w0 1), .inl (k 6, 8, .inr (.inr (.inr (.inr (fun _ => none)))))), ((w0 2), .inl (k 6, 20, .inr (.inr (.inr (.inr (fun _ => none)))))), ((w0 4), .inl (k 6, 6, .inr (.inr (.inr (.inr (fun _ => none)))))), (od, .inl (k 8, 1, .inr (.inr (.inr (.inl (fun _ => 0)))))), (o, .inl (k 1, 1, .inr (.inl uL)))] := hD
    rcases hwL with ⟨hok, rfl, hfL⟩ | ⟨hok, rfl⟩
    · refine lv_istore (lv' := [(6, .int 0), (0, .ref b), (1, .ref to), (2, .ref mo), (3, .ref o), (4, .ref od), (5, .int 0)]) hx hb dL_law_952 hl (by decide) rfl (fun ls hl => ?_)
      refine lv_aload_n hx hb dL_law_954 rfl (lv_at hl 3 rfl) ?_
      refine lv_aload_n hx hb dL_law_955 rfl (lv_at hl 1 rfl) ?_
      refine lv_iload hx hb dL_law_956 (lv_at hl 6 rfl) ?_
      refine lv_iconst (v := 1) hx hb dL_law_958 (by decide) ?_
      refine lv_iadd hx hb dL_law_959 ?_
      refine w_top (y := 1) (by decide) ?_
      refine va_sld hx hb hX hbl hbA hS (vp_in_nI (n := 1) (N := 6) (by decide) (by decide)) dL_law_960 ?_
      refine w_top (y := xs 1) rfl ?_
      refine lv_aload_n hx hb dL_law_961 rfl (lv_at hl 1 rfl) ?_
      refine lv_iload hx hb dL_law_962 (lv_at hl 6 rfl) ?_
      refine lv_iconst (v := 2) hx hb dL_law_964 (by decide) ?_
      refine lv_iadd hx hb dL_law_965 ?_
      refine w_top (y := 2) (by decide) ?_
      refine va_sld hx hb hX hbl hbA hS (vp_in_nI (n := 2) (N := 6) (by decide) (by decide)) dL_law_966 ?_
      refine w_top (y := xs 2) rfl ?_
      refine lv_aload_n hx hb dL_law_967 rfl (lv_at hl 1 rfl) ?_
      refine lv_iload hx hb dL_law_968 (lv_at hl 6 rfl) ?_
      refine lv_iconst (v := 3) hx hb dL_law_970 (by decide) ?_
      refine lv_iadd hx hb dL_law_971 ?_
      refine w_top (y := 3) (by decide) ?_
      refine va_sld hx hb hX hbl hbA hS (vp_in_nI (n := 3) (N := 6) (by decide) (by decide)) dL_law_972 ?_
      refine w_top (y := xs 3) rfl ?_
      refine lv_aload_n hx hb dL_law_973 rfl (lv_at hl 1 rfl) ?_
      refine lv_iload hx hb dL_law_974 (lv_at hl 6 rfl) ?_
      refine lv_iconst (v := 4) hx hb dL_law_976 (by decide) ?_
      refine lv_iadd hx hb dL_law_977 ?_
      refine w_top (y := 4) (by decide) ?_
      refine va_sld hx hb hX hbl hbA hS (vp_in_nI (n := 4) (N := 6) (by decide) (by decide)) dL_law_978 ?_
      refine w_top (y := xs 4) rfl ?_
      refine lv_aload_n hx hb dL_law_979 rfl (lv_at hl 1 rfl) ?_
      refine lv_iload hx hb dL_law_980 (lv_at hl 6 rfl) ?_
      refine lv_iconst (v := 5) hx hb dL_law_982 (by decide) ?_
      refine lv_iadd hx hb dL_law_983 ?_
      refine w_top (y := 5) (by decide) ?_
      refine va_sld hx hb hX hbl hbA hS (vp_in_nI (n := 5) (N := 6) (by decide) (by decide)) dL_law_984 ?_
      refine w_top (y := xs 5) rfl ?_
      refine lv_if_eq (tgt := 992) hx hb dL_law_985 (by decide) (fun c_985 => ?_) (fun c_985 => ?_)
      · have g_985 : (xs 5).toInt = 0 := congrArg Int32.toInt c_985
        refine lv_iconst (v := 0) hx hb dL_law_992 (by decide) ?_
        have hPc := hP.sub (ws' := [(mo, .inr (13, [.int 0, .ref (w0 0), .int 0, .ref (w0 1), .int 0, .int 0, .ref (w0 2), .int 0, .ref (w0 3), .ref (w0 4), .int 0])), ((w0 0), .inl (k 5, 3, .inr (.inr (.inr (.inr (fun i => some (w0 (5 + i)))))))), ((w0 5), .inl (k 0, 768, .inl (fun _ => 0))), ((w0 6), .inl (k 0, 768, .inl (fun _ => 0))), ((w0 7), .inl (k 0, 768, .inl (fun _ => 0))), ((w0 1), .inl (k 6, 8, .inr (.inr (.inr (.inr (fun _ => none)))))), ((w0 2), .inl (k 6, 20, .inr (.inr (.inr (.inr (fun _ => none)))))), ((w0 4), .inl (k 6, 6, .inr (.inr (.inr (.inr (fun _ => none))))))]) [0, 1, 2, 3, 4, 5, 6, 7] rfl
        have hDc := hD.sub (ws' := [(mo, .inr (13, [.int 0, .ref (w0 0), .int 0, .ref (w0 1), .int 0, .int 0, .ref (w0 2), .int 0, .ref (w0 3), .ref (w0 4), .int 0])), ((w0 0), .inl (k 5, 3, .inr (.inr (.inr (.inr (fun i => some (w0 (5 + i)))))))), ((w0 5), .inl (k 0, 768, .inl (fun _ => 0))), ((w0 6), .inl (k 0, 768, .inl (fun _ => 0))), ((w0 7), .inl (k 0, 768, .inl (fun _ => 0))), ((w0 1), .inl (k 6, 8, .inr (.inr (.inr (.inr (fun _ => none)))))), ((w0 2), .inl (k 6, 20, .inr (.inr (.inr (.inr (fun _ => none)))))), ((w0 4), .inl (k 6, 6, .inr (.inr (.inr (.inr (fun _ => none))))))]) [0, 1, 2, 3, 4, 5, 6, 7] (by decide) rfl
        have hFc := va_free (wc := [(mo, .inr (13, [.int 0, .ref (w0 0), .int 0, .ref (w0 1), .int 0, .int 0, .ref (w0 2), .int 0, .ref (w0 3), .ref (w0 4), .int 0])), ((w0 0), .inl (k 5, 3, .inr (.inr (.inr (.inr (fun i => some (w0 (5 + i)))))))), ((w0 5), .inl (k 0, 768, .inl (fun _ => 0))), ((w0 6), .inl (k 0, 768, .inl (fun _ => 0))), ((w0 7), .inl (k 0, 768, .inl (fun _ => 0))), ((w0 1), .inl (k 6, 8, .inr (.inr (.inr (.inr (fun _ => none)))))), ((w0 2), .inl (k 6, 20, .inr (.inr (.inr (.inr (fun _ => none)))))), ((w0 4), .inl (k 6, 6, .inr (.inr (.inr (.inr (fun _ => none))))))]) hD hS hA [0, 1, 2, 3, 4, 5, 6, 7] rfl
        refine va_calli (va_runV (As := [.int (xs 1), .int (xs 2), .int (xs 3), .int (xs 4), .int 0]) (rest := []) ⟨hx, hb, hml, hown, hts⟩ (k_X12_path l D k e0 H.size mo w0 (xs 1) (xs 2) (xs 3) (xs 4) 0) (cwV 5 hts gL_law_X12_path rfl rfl rfl (by decide +kernel) ⟨Nat.le_of_ble_eq_true rfl, Nat.le_of_ble_eq_true rfl⟩) ⟨mPc_fb, va_recv hC.1 hPc (ci := 13) (q0 := 0) rfl rfl, mPc_go hC hHf hS hPc hDc hFc⟩ rfl rfl hl.1 rfl (lv_room (Nat.le_of_ble_eq_true rfl)) dL_law_993 ⟨Nat.le_of_ble_eq_true rfl, Nat.le_of_ble_eq_true rfl⟩) hS (fun q9 _ h9 => hFc q9 h9) hFc (fun r18 u17 t H locs ht hvm hw_r18 hB hz1 hk1 hS => ?_)
        obtain ⟨hP1, hD1⟩ := hB
        rw [ht] at hP1
        obtain ⟨hP, hD⟩ := va_join (wr := [(od, .inl (k 8, 1, .inr (.inr (.inr (.inl (fun _ => 0)))))), (o, .inl (k 1, 1, .inr (.inl uL)))]) (w1 := [(mo, .inr (13, u17))]) hP hD [0, 1, 2, 3, 4, 5, 6, 7] [8, 9] rfl rfl (by decide) (by decide) hk1 hFc hP1 hD1
        have hP : va_P D vwCl [(od, .inl (k 8, 1, .inr (.inr (.inr (.inl (fun _ => 0)))))), (o, .inl (k 1, 1, .inr (.inl uL))), (mo, .inr (13, u17))] H := hP
        have hD : va_D A [(od, .inl (k 8, 1, .inr (.inr (.inr (.inl (fun _ => 0)))))), (o, .inl (k 1, 1, .inr (.inl uL))), (mo, .inr (13, u17))] := hD
        obtain ⟨hth, rfl⟩ : u17[0]? = some (.int 0) ∧ r18 = 0 := by rcases hw_r18 with ⟨_, z1, z2⟩ | ⟨z1, _⟩; exact ⟨z1, z2⟩; exact absurd hok z1
        refine lv_istore (lv' := [(7, .int 0), (6, .int 0), (0, .ref b), (1, .ref to), (2, .ref mo), (3, .ref o), (4, .ref od), (5, .int 0)]) hx hb dL_law_996 hl (by decide) rfl (fun ls hl => ?_)
        refine lv_aload_n hx hb dL_law_998 rfl (lv_at hl 4 rfl) ?_
        refine pz_i (va_runV (As := []) (rest := []) ⟨hx, hb, hml, hown, hts⟩ (k_X12_thrown l D k H mo u17 0 (hP.sub [2] rfl) hth) (cwV 0 hts gL_law_X12_thrown rfl rfl rfl (by decide +kernel) ⟨Nat.le_of_ble_eq_true rfl, Nat.le_of_ble_eq_true rfl⟩) ⟨pPc_fb, va_recv hC.1 hP (ci := 13) (q0 := 2) rfl rfl, pPc_go hC⟩ rfl rfl hl.1 rfl (lv_room (Nat.le_of_ble_eq_true rfl)) dL_law_999 ⟨Nat.le_of_ble_eq_true rfl, Nat.le_of_ble_eq_true rfl⟩) hS (fun r20 locs hw_r20 hS => ?_)
        subst hw_r20
        refine lv_iload hx hb dL_law_1002 (lv_at hl 1 rfl) ?_
        refine lv_icmp_eq (tgt := 1009) hx hb dL_law_1004 (by decide) (fun c_1004 => ?_) (fun c_1004 => absurd (by decide) c_1004)
        refine lv_iload hx hb dL_law_1009 (lv_at hl 1 rfl) ?_
        refine lv_if_ne (tgt := 1026) hx hb dL_law_1011 (by decide) (fun c_1011 => absurd c_1011 (by decide)) (fun c_1011 => ?_)
        refine lv_aload_n hx hb dL_law_1014 rfl (lv_at hl 5 rfl) ?_
        refine lv_iconst (v := 0) hx hb dL_law_1015 (by decide) ?_
        refine va_lald hx hb hC.1 hP 1 1 rfl rfl (vp_in_nI (n := 0) (N := 1) (by decide) (by decide)) dL_law_1016 ?_
        refine w_topl (y := 0) hfL ?_
        refine lv_iload hx hb dL_law_1017 (lv_at hl 0 rfl) ?_
        refine lv_i2l (v := 0) hx hb dL_law_1019 (by decide) ?_
        refine W.lcmp hx hb dL_law_1020 ?_
        refine w_top (y := 0) (by decide) ?_
        refine lv_if_eq (tgt := 1026) hx hb dL_law_1021 (by decide) (fun c_1021 => ?_) (fun c_1021 => absurd (by decide) c_1021)
        refine lv_goto (tgt := 2046) hx hb dL_law_1026 (by decide) ?_
        refine W.widen (k := 100000) (n := 1000000) (Nat.le_of_ble_eq_true rfl) (Nat.le_of_ble_eq_true rfl) ?_
        exact law_end ⟨hx, hb, hr, hml, hown, hts0, hX, hbl, hlocks, hgv⟩ hAs hS (lv_sub hl [2, 7] rfl)
      · have g_985 : ¬ (xs 5).toInt = 0 := fun q9 => c_985 (Int32.toInt_inj.mp q9)
        refine lv_iconst (v := 1) hx hb dL_law_988 (by decide) ?_
        refine lv_goto (tgt := 993) hx hb dL_law_989 (by decide) ?_
        have hPc := hP.sub (ws' := [(mo, .inr (13, [.int 0, .ref (w0 0), .int 0, .ref (w0 1), .int 0, .int 0, .ref (w0 2), .int 0, .ref (w0 3), .ref (w0 4), .int 0])), ((w0 0), .inl (k 5, 3, .inr (.inr (.inr (.inr (fun i => some (w0 (5 + i)))))))), ((w0 5), .inl (k 0, 768, .inl (fun _ => 0))), ((w0 6), .inl (k 0, 768, .inl (fun _ => 0))), ((w0 7), .inl (k 0, 768, .inl (fun _ => 0))), ((w0 1), .inl (k 6, 8, .inr (.inr (.inr (.inr (fun _ => none)))))), ((w0 2), .inl (k 6, 20, .inr (.inr (.inr (.inr (fun _ => none)))))), ((w0 4), .inl (k 6, 6, .inr (.inr (.inr (.inr (fun _ => none))))))]) [0, 1, 2, 3, 4, 5, 6, 7] rfl
        have hDc := hD.sub (ws' := [(mo, .inr (13, [.int 0, .ref (w0 0), .int 0, .ref (w0 1), .int 0, .int 0, .ref (w0 2), .int 0, .ref (w0 3), .ref (w0 4), .int 0])), ((w0 0), .inl (k 5, 3, .inr (.inr (.inr (.inr (fun i => some (w0 (5 + i)))))))), ((w0 5), .inl (k 0, 768, .inl (fun _ => 0))), ((w0 6), .inl (k 0, 768, .inl (fun _ => 0))), ((w0 7), .inl (k 0, 768, .inl (fun _ => 0))), ((w0 1), .inl (k 6, 8, .inr (.inr (.inr (.inr (fun _ => none)))))), ((w0 2), .inl (k 6, 20, .inr (.inr (.inr (.inr (fun _ => none)))))), ((w0 4), .inl (k 6, 6, .inr (.inr (.inr (.inr (fun _ => none))))))]) [0, 1, 2, 3, 4, 5, 6, 7] (by decide) rfl
        have hFc := va_free (wc := [(mo, .inr (13, [.int 0, .ref (w0 0), .int 0, .ref (w0 1), .int 0, .int 0, .ref (w0 2), .int 0, .ref (w0 3), .ref (w0 4), .int 0])), ((w0 0), .inl (k 5, 3, .inr (.inr (.inr (.inr (fun i => some (w0 (5 + i)))))))), ((w0 5), .inl (k 0, 768, .inl (fun _ => 0))), ((w0 6), .inl (k 0, 768, .inl (fun _ => 0))), ((w0 7), .inl (k 0, 768, .inl (fun _ => 0))), ((w0 1), .inl (k 6, 8, .inr (.inr (.inr (.inr (fun _ => none)))))), ((w0 2), .inl (k 6, 20, .inr (.inr (.inr (.inr (fun _ => none)))))), ((w0 4), .inl (k 6, 6, .inr (.inr (.inr (.inr (fun _ => none))))))]) hD hS hA [0, 1, 2, 3, 4, 5, 6, 7] rfl
        refine va_calli (va_runV (As := [.int (xs 1), .int (xs 2), .int (xs 3), .int (xs 4), .int 1]) (rest := []) ⟨hx, hb, hml, hown, hts⟩ (k_X12_path l D k e0 H.size mo w0 (xs 1) (xs 2) (xs 3) (xs 4) 1) (cwV 5 hts gL_law_X12_path rfl rfl rfl (by decide +kernel) ⟨Nat.le_of_ble_eq_true rfl, Nat.le_of_ble_eq_true rfl⟩) ⟨mPc_fb, va_recv hC.1 hPc (ci := 13) (q0 := 0) rfl rfl, mPc_go hC hHf hS hPc hDc hFc⟩ rfl rfl hl.1 rfl (lv_room (Nat.le_of_ble_eq_true rfl)) dL_law_993 ⟨Nat.le_of_ble_eq_true rfl, Nat.le_of_ble_eq_true rfl⟩) hS (fun q9 _ h9 => hFc q9 h9) hFc (fun r22 u21 t H locs ht hvm hw_r22 hB hz1 hk1 hS => ?_)
        obtain ⟨hP1, hD1⟩ := hB
        rw [ht] at hP1
        obtain ⟨hP, hD⟩ := va_join (wr := [(od, .inl (k 8, 1, .inr (.inr (.inr (.inl (fun _ => 0)))))), (o, .inl (k 1, 1, .inr (.inl uL)))]) (w1 := [(mo, .inr (13, u21))]) hP hD [0, 1, 2, 3, 4, 5, 6, 7] [8, 9] rfl rfl (by decide) (by decide) hk1 hFc hP1 hD1
        have hP : va_P D vwCl [(od, .inl (k 8, 1, .inr (.inr (.inr (.inl (fun _ => 0)))))), (o, .inl (k 1, 1, .inr (.inl uL))), (mo, .inr (13, u21))] H := hP
        have hD : va_D A [(od, .inl (k 8, 1, .inr (.inr (.inr (.inl (fun _ => 0)))))), (o, .inl (k 1, 1, .inr (.inl uL))), (mo, .inr (13, u21))] := hD
        obtain ⟨hth, rfl⟩ : u21[0]? = some (.int 0) ∧ r22 = 0 := by rcases hw_r22 with ⟨_, z1, z2⟩ | ⟨z1, _⟩; exact ⟨z1, z2⟩; exact absurd hok z1
        refine lv_istore (lv' := [(7, .int 0), (6, .int 0), (0, .ref b), (1, .ref to), (2, .ref mo), (3, .ref o), (4, .ref od), (5, .int 0)]) hx hb dL_law_996 hl (by decide) rfl (fun ls hl => ?_)
        refine lv_aload_n hx hb dL_law_998 rfl (lv_at hl 4 rfl) ?_
        refine pz_i (va_runV (As := []) (rest := []) ⟨hx, hb, hml, hown, hts⟩ (k_X12_thrown l D k H mo u21 0 (hP.sub [2] rfl) hth) (cwV 0 hts gL_law_X12_thrown rfl rfl rfl (by decide +kernel) ⟨Nat.le_of_ble_eq_true rfl, Nat.le_of_ble_eq_true rfl⟩) ⟨pPc_fb, va_recv hC.1 hP (ci := 13) (q0 := 2) rfl rfl, pPc_go hC⟩ rfl rfl hl.1 rfl (lv_room (Nat.le_of_ble_eq_true rfl)) dL_law_999 ⟨Nat.le_of_ble_eq_true rfl, Nat.le_of_ble_eq_true rfl⟩) hS (fun r24 locs hw_r24 hS => ?_)
        subst hw_r24
        refine lv_iload hx hb dL_law_1002 (lv_at hl 1 rfl) ?_
        refine lv_icmp_eq (tgt := 1009) hx hb dL_law_1004 (by decide) (fun c_1004 => ?_) (fun c_1004 => absurd (by decide) c_1004)
        refine lv_iload hx hb dL_law_1009 (lv_at hl 1 rfl) ?_
        refine lv_if_ne (tgt := 1026) hx hb dL_law_1011 (by decide) (fun c_1011 => absurd c_1011 (by decide)) (fun c_1011 => ?_)
        refine lv_aload_n hx hb dL_law_1014 rfl (lv_at hl 5 rfl) ?_
        refine lv_iconst (v := 0) hx hb dL_law_1015 (by decide) ?_
        refine va_lald hx hb hC.1 hP 1 1 rfl rfl (vp_in_nI (n := 0) (N := 1) (by decide) (by decide)) dL_law_1016 ?_
        refine w_topl (y := 0) hfL ?_
        refine lv_iload hx hb dL_law_1017 (lv_at hl 0 rfl) ?_
        refine lv_i2l (v := 0) hx hb dL_law_1019 (by decide) ?_
        refine W.lcmp hx hb dL_law_1020 ?_
        refine w_top (y := 0) (by decide) ?_
        refine lv_if_eq (tgt := 1026) hx hb dL_law_1021 (by decide) (fun c_1021 => ?_) (fun c_1021 => absurd (by decide) c_1021)
        refine lv_goto (tgt := 2046) hx hb dL_law_1026 (by decide) ?_
        refine W.widen (k := 100000) (n := 1000000) (Nat.le_of_ble_eq_true rfl) (Nat.le_of_ble_eq_true rfl) ?_
        exact law_end ⟨hx, hb, hr, hml, hown, hts0, hX, hbl, hlocks, hgv⟩ hAs hS (lv_sub hl [2, 7] rfl)
    · refine lv_istore (lv' := [(6, .int 1), (0, .ref b), (1, .ref to), (2, .ref mo), (3, .ref o), (4, .ref od), (5, .int 0)]) hx hb dL_law_952 hl (by decide) rfl (fun ls hl => ?_)
      refine lv_aload_n hx hb dL_law_954 rfl (lv_at hl 3 rfl) ?_
      refine lv_aload_n hx hb dL_law_955 rfl (lv_at hl 1 rfl) ?_
      refine lv_iload hx hb dL_law_956 (lv_at hl 6 rfl) ?_
      refine lv_iconst (v := 1) hx hb dL_law_958 (by decide) ?_
      refine lv_iadd hx hb dL_law_959 ?_
      refine w_top (y := 1) (by decide) ?_
      refine va_sld hx hb hX hbl hbA hS (vp_in_nI (n := 1) (N := 6) (by decide) (by decide)) dL_law_960 ?_
      refine w_top (y := xs 1) rfl ?_
      refine lv_aload_n hx hb dL_law_961 rfl (lv_at hl 1 rfl) ?_
      refine lv_iload hx hb dL_law_962 (lv_at hl 6 rfl) ?_
      refine lv_iconst (v := 2) hx hb dL_law_964 (by decide) ?_
      refine lv_iadd hx hb dL_law_965 ?_
      refine w_top (y := 2) (by decide) ?_
      refine va_sld hx hb hX hbl hbA hS (vp_in_nI (n := 2) (N := 6) (by decide) (by decide)) dL_law_966 ?_
      refine w_top (y := xs 2) rfl ?_
      refine lv_aload_n hx hb dL_law_967 rfl (lv_at hl 1 rfl) ?_
      refine lv_iload hx hb dL_law_968 (lv_at hl 6 rfl) ?_
      refine lv_iconst (v := 3) hx hb dL_law_970 (by decide) ?_
      refine lv_iadd hx hb dL_law_971 ?_
      refine w_top (y := 3) (by decide) ?_
      refine va_sld hx hb hX hbl hbA hS (vp_in_nI (n := 3) (N := 6) (by decide) (by decide)) dL_law_972 ?_
      refine w_top (y := xs 3) rfl ?_
      refine lv_aload_n hx hb dL_law_973 rfl (lv_at hl 1 rfl) ?_
      refine lv_iload hx hb dL_law_974 (lv_at hl 6 rfl) ?_
      refine lv_iconst (v := 4) hx hb dL_law_976 (by decide) ?_
      refine lv_iadd hx hb dL_law_977 ?_
      refine w_top (y := 4) (by decide) ?_
      refine va_sld hx hb hX hbl hbA hS (vp_in_nI (n := 4) (N := 6) (by decide) (by decide)) dL_law_978 ?_
      refine w_top (y := xs 4) rfl ?_
      refine lv_aload_n hx hb dL_law_979 rfl (lv_at hl 1 rfl) ?_
      refine lv_iload hx hb dL_law_980 (lv_at hl 6 rfl) ?_
      refine lv_iconst (v := 5) hx hb dL_law_982 (by decide) ?_
      refine lv_iadd hx hb dL_law_983 ?_
      refine w_top (y := 5) (by decide) ?_
      refine va_sld hx hb hX hbl hbA hS (vp_in_nI (n := 5) (N := 6) (by decide) (by decide)) dL_law_984 ?_
      refine w_top (y := xs 5) rfl ?_
      refine lv_if_eq (tgt := 992) hx hb dL_law_985 (by decide) (fun c_985 => ?_) (fun c_985 => ?_)
      · have g_985 : (xs 5).toInt = 0 := congrArg Int32.toInt c_985
        refine lv_iconst (v := 0) hx hb dL_law_992 (by decide) ?_
        have hPc := hP.sub (ws' := [(mo, .inr (13, [.int 0, .ref (w0 0), .int 0, .ref (w0 1), .int 0, .int 0, .ref (w0 2), .int 0, .ref (w0 3), .ref (w0 4), .int 0])), ((w0 0), .inl (k 5, 3, .inr (.inr (.inr (.inr (fun i => some (w0 (5 + i)))))))), ((w0 5), .inl (k 0, 768, .inl (fun _ => 0))), ((w0 6), .inl (k 0, 768, .inl (fun _ => 0))), ((w0 7), .inl (k 0, 768, .inl (fun _ => 0))), ((w0 1), .inl (k 6, 8, .inr (.inr (.inr (.inr (fun _ => none)))))), ((w0 2), .inl (k 6, 20, .inr (.inr (.inr (.inr (fun _ => none)))))), ((w0 4), .inl (k 6, 6, .inr (.inr (.inr (.inr (fun _ => none))))))]) [0, 1, 2, 3, 4, 5, 6, 7] rfl
        have hDc := hD.sub (ws' := [(mo, .inr (13, [.int 0, .ref (w0 0), .int 0, .ref (w0 1), .int 0, .int 0, .ref (w0 2), .int 0, .ref (w0 3), .ref (w0 4), .int 0])), ((w0 0), .inl (k 5, 3, .inr (.inr (.inr (.inr (fun i => some (w0 (5 + i)))))))), ((w0 5), .inl (k 0, 768, .inl (fun _ => 0))), ((w0 6), .inl (k 0, 768, .inl (fun _ => 0))), ((w0 7), .inl (k 0, 768, .inl (fun _ => 0))), ((w0 1), .inl (k 6, 8, .inr (.inr (.inr (.inr (fun _ => none)))))), ((w0 2), .inl (k 6, 20, .inr (.inr (.inr (.inr (fun _ => none)))))), ((w0 4), .inl (k 6, 6, .inr (.inr (.inr (.inr (fun _ => none))))))]) [0, 1, 2, 3, 4, 5, 6, 7] (by decide) rfl
        have hFc := va_free (wc := [(mo, .inr (13, [.int 0, .ref (w0 0), .int 0, .ref (w0 1), .int 0, .int 0, .ref (w0 2), .int 0, .ref (w0 3), .ref (w0 4), .int 0])), ((w0 0), .inl (k 5, 3, .inr (.inr (.inr (.inr (fun i => some (w0 (5 + i)))))))), ((w0 5), .inl (k 0, 768, .inl (fun _ => 0))), ((w0 6), .inl (k 0, 768, .inl (fun _ => 0))), ((w0 7), .inl (k 0, 768, .inl (fun _ => 0))), ((w0 1), .inl (k 6, 8, .inr (.inr (.inr (.inr (fun _ => none)))))), ((w0 2), .inl (k 6, 20, .inr (.inr (.inr (.inr (fun _ => none)))))), ((w0 4), .inl (k 6, 6, .inr (.inr (.inr (.inr (fun _ => none))))))]) hD hS hA [0, 1, 2, 3, 4, 5, 6, 7] rfl
        refine va_calli (va_runV (As := [.int (xs 1), .int (xs 2), .int (xs 3), .int (xs 4), .int 0]) (rest := []) ⟨hx, hb, hml, hown, hts⟩ (k_X12_path l D k e0 H.size mo w0 (xs 1) (xs 2) (xs 3) (xs 4) 0) (cwV 5 hts gL_law_X12_path rfl rfl rfl (by decide +kernel) ⟨Nat.le_of_ble_eq_true rfl, Nat.le_of_ble_eq_true rfl⟩) ⟨mPc_fb, va_recv hC.1 hPc (ci := 13) (q0 := 0) rfl rfl, mPc_go hC hHf hS hPc hDc hFc⟩ rfl rfl hl.1 rfl (lv_room (Nat.le_of_ble_eq_true rfl)) dL_law_993 ⟨Nat.le_of_ble_eq_true rfl, Nat.le_of_ble_eq_true rfl⟩) hS (fun q9 _ h9 => hFc q9 h9) hFc (fun r26 u25 t H locs ht hvm hw_r26 hB hz1 hk1 hS => ?_)
        obtain ⟨hP1, hD1⟩ := hB
        rw [ht] at hP1
        obtain ⟨hP, hD⟩ := va_join (wr := [(od, .inl (k 8, 1, .inr (.inr (.inr (.inl (fun _ => 0)))))), (o, .inl (k 1, 1, .inr (.inl uL)))]) (w1 := [(mo, .inr (13, u25))]) hP hD [0, 1, 2, 3, 4, 5, 6, 7] [8, 9] rfl rfl (by decide) (by decide) hk1 hFc hP1 hD1
        have hP : va_P D vwCl [(od, .inl (k 8, 1, .inr (.inr (.inr (.inl (fun _ => 0)))))), (o, .inl (k 1, 1, .inr (.inl uL))), (mo, .inr (13, u25))] H := hP
        have hD : va_D A [(od, .inl (k 8, 1, .inr (.inr (.inr (.inl (fun _ => 0)))))), (o, .inl (k 1, 1, .inr (.inl uL))), (mo, .inr (13, u25))] := hD
        have hth : u25[0]? = some (.int 1) := by rcases hw_r26 with ⟨z1, _⟩ | ⟨_, z1⟩; exact absurd z1 hok; exact z1
        refine lv_istore (lv' := [(7, .int r26), (6, .int 1), (0, .ref b), (1, .ref to), (2, .ref mo), (3, .ref o), (4, .ref od), (5, .int 0)]) hx hb dL_law_996 hl (by decide) rfl (fun ls hl => ?_)
        refine lv_aload_n hx hb dL_law_998 rfl (lv_at hl 4 rfl) ?_
        refine pz_i (va_runV (As := []) (rest := []) ⟨hx, hb, hml, hown, hts⟩ (k_X12_thrown l D k H mo u25 1 (hP.sub [2] rfl) hth) (cwV 0 hts gL_law_X12_thrown rfl rfl rfl (by decide +kernel) ⟨Nat.le_of_ble_eq_true rfl, Nat.le_of_ble_eq_true rfl⟩) ⟨pPc_fb, va_recv hC.1 hP (ci := 13) (q0 := 2) rfl rfl, pPc_go hC⟩ rfl rfl hl.1 rfl (lv_room (Nat.le_of_ble_eq_true rfl)) dL_law_999 ⟨Nat.le_of_ble_eq_true rfl, Nat.le_of_ble_eq_true rfl⟩) hS (fun r28 locs hw_r28 hS => ?_)
        subst hw_r28
        refine lv_iload hx hb dL_law_1002 (lv_at hl 1 rfl) ?_
        refine lv_icmp_eq (tgt := 1009) hx hb dL_law_1004 (by decide) (fun c_1004 => ?_) (fun c_1004 => absurd (by decide) c_1004)
        refine lv_iload hx hb dL_law_1009 (lv_at hl 1 rfl) ?_
        refine lv_if_ne (tgt := 1026) hx hb dL_law_1011 (by decide) (fun c_1011 => ?_) (fun c_1011 => absurd c_1011 (by decide))
        refine lv_goto (tgt := 2046) hx hb dL_law_1026 (by decide) ?_
        refine W.widen (k := 100000) (n := 1000000) (Nat.le_of_ble_eq_true rfl) (Nat.le_of_ble_eq_true rfl) ?_
        exact law_end ⟨hx, hb, hr, hml, hown, hts0, hX, hbl, hlocks, hgv⟩ hAs hS (lv_sub hl [2, 7] rfl)
      · have g_985 : ¬ (xs 5).toInt = 0 := fun q9 => c_985 (Int32.toInt_inj.mp q9)
        refine lv_iconst (v := 1) hx hb dL_law_988 (by decide) ?_
        refine lv_goto (tgt := 993) hx hb dL_law_989 (by decide) ?_
        have hPc := hP.sub (ws' := [(mo, .inr (13, [.int 0, .ref (w0 0), .int 0, .ref (w0 1), .int 0, .int 0, .ref (w0 2), .int 0, .ref (w0 3), .ref (w0 4), .int 0])), ((w0 0), .inl (k 5, 3, .inr (.inr (.inr (.inr (fun i => some (w0 (5 + i)))))))), ((w0 5), .inl (k 0, 768, .inl (fun _ => 0))), ((w0 6), .inl (k 0, 768, .inl (fun _ => 0))), ((w0 7), .inl (k 0, 768, .inl (fun _ => 0))), ((w0 1), .inl (k 6, 8, .inr (.inr (.inr (.inr (fun _ => none)))))), ((w0 2), .inl (k 6, 20, .inr (.inr (.inr (.inr (fun _ => none)))))), ((w0 4), .inl (k 6, 6, .inr (.inr (.inr (.inr (fun _ => none))))))]) [0, 1, 2, 3, 4, 5, 6, 7] rfl
        have hDc := hD.sub (ws' := [(mo, .inr (13, [.int 0, .ref (w0 0), .int 0, .ref (w0 1), .int 0, .int 0, .ref (w0 2), .int 0, .ref (w0 3), .ref (w0 4), .int 0])), ((w0 0), .inl (k 5, 3, .inr (.inr (.inr (.inr (fun i => some (w0 (5 + i)))))))), ((w0 5), .inl (k 0, 768, .inl (fun _ => 0))), ((w0 6), .inl (k 0, 768, .inl (fun _ => 0))), ((w0 7), .inl (k 0, 768, .inl (fun _ => 0))), ((w0 1), .inl (k 6, 8, .inr (.inr (.inr (.inr (fun _ => none)))))), ((w0 2), .inl (k 6, 20, .inr (.inr (.inr (.inr (fun _ => none)))))), ((w0 4), .inl (k 6, 6, .inr (.inr (.inr (.inr (fun _ => none))))))]) [0, 1, 2, 3, 4, 5, 6, 7] (by decide) rfl
        have hFc := va_free (wc := [(mo, .inr (13, [.int 0, .ref (w0 0), .int 0, .ref (w0 1), .int 0, .int 0, .ref (w0 2), .int 0, .ref (w0 3), .ref (w0 4), .int 0])), ((w0 0), .inl (k 5, 3, .inr (.inr (.inr (.inr (fun i => some (w0 (5 + i)))))))), ((w0 5), .inl (k 0, 768, .inl (fun _ => 0))), ((w0 6), .inl (k 0, 768, .inl (fun _ => 0))), ((w0 7), .inl (k 0, 768, .inl (fun _ => 0))), ((w0 1), .inl (k 6, 8, .inr (.inr (.inr (.inr (fun _ => none)))))), ((w0 2), .inl (k 6, 20, .inr (.inr (.inr (.inr (fun _ => none)))))), ((w0 4), .inl (k 6, 6, .inr (.inr (.inr (.inr (fun _ => none))))))]) hD hS hA [0, 1, 2, 3, 4, 5, 6, 7] rfl
        refine va_calli (va_runV (As := [.int (xs 1), .int (xs 2), .int (xs 3), .int (xs 4), .int 1]) (rest := []) ⟨hx, hb, hml, hown, hts⟩ (k_X12_path l D k e0 H.size mo w0 (xs 1) (xs 2) (xs 3) (xs 4) 1) (cwV 5 hts gL_law_X12_path rfl rfl rfl (by decide +kernel) ⟨Nat.le_of_ble_eq_true rfl, Nat.le_of_ble_eq_true rfl⟩) ⟨mPc_fb, va_recv hC.1 hPc (ci := 13) (q0 := 0) rfl rfl, mPc_go hC hHf hS hPc hDc hFc⟩ rfl rfl hl.1 rfl (lv_room (Nat.le_of_ble_eq_true rfl)) dL_law_993 ⟨Nat.le_of_ble_eq_true rfl, Nat.le_of_ble_eq_true rfl⟩) hS (fun q9 _ h9 => hFc q9 h9) hFc (fun r30 u29 t H locs ht hvm hw_r30 hB hz1 hk1 hS => ?_)
        obtain ⟨hP1, hD1⟩ := hB
        rw [ht] at hP1
        obtain ⟨hP, hD⟩ := va_join (wr := [(od, .inl (k 8, 1, .inr (.inr (.inr (.inl (fun _ => 0)))))), (o, .inl (k 1, 1, .inr (.inl uL)))]) (w1 := [(mo, .inr (13, u29))]) hP hD [0, 1, 2, 3, 4, 5, 6, 7] [8, 9] rfl rfl (by decide) (by decide) hk1 hFc hP1 hD1
        have hP : va_P D vwCl [(od, .inl (k 8, 1, .inr (.inr (.inr (.inl (fun _ => 0)))))), (o, .inl (k 1, 1, .inr (.inl uL))), (mo, .inr (13, u29))] H := hP
        have hD : va_D A [(od, .inl (k 8, 1, .inr (.inr (.inr (.inl (fun _ => 0)))))), (o, .inl (k 1, 1, .inr (.inl uL))), (mo, .inr (13, u29))] := hD
        have hth : u29[0]? = some (.int 1) := by rcases hw_r30 with ⟨z1, _⟩ | ⟨_, z1⟩; exact absurd z1 hok; exact z1
        refine lv_istore (lv' := [(7, .int r30), (6, .int 1), (0, .ref b), (1, .ref to), (2, .ref mo), (3, .ref o), (4, .ref od), (5, .int 0)]) hx hb dL_law_996 hl (by decide) rfl (fun ls hl => ?_)
        refine lv_aload_n hx hb dL_law_998 rfl (lv_at hl 4 rfl) ?_
        refine pz_i (va_runV (As := []) (rest := []) ⟨hx, hb, hml, hown, hts⟩ (k_X12_thrown l D k H mo u29 1 (hP.sub [2] rfl) hth) (cwV 0 hts gL_law_X12_thrown rfl rfl rfl (by decide +kernel) ⟨Nat.le_of_ble_eq_true rfl, Nat.le_of_ble_eq_true rfl⟩) ⟨pPc_fb, va_recv hC.1 hP (ci := 13) (q0 := 2) rfl rfl, pPc_go hC⟩ rfl rfl hl.1 rfl (lv_room (Nat.le_of_ble_eq_true rfl)) dL_law_999 ⟨Nat.le_of_ble_eq_true rfl, Nat.le_of_ble_eq_true rfl⟩) hS (fun r32 locs hw_r32 hS => ?_)
        subst hw_r32
        refine lv_iload hx hb dL_law_1002 (lv_at hl 1 rfl) ?_
        refine lv_icmp_eq (tgt := 1009) hx hb dL_law_1004 (by decide) (fun c_1004 => ?_) (fun c_1004 => absurd (by decide) c_1004)
        refine lv_iload hx hb dL_law_1009 (lv_at hl 1 rfl) ?_
        refine lv_if_ne (tgt := 1026) hx hb dL_law_1011 (by decide) (fun c_1011 => ?_) (fun c_1011 => absurd c_1011 (by decide))
        refine lv_goto (tgt := 2046) hx hb dL_law_1026 (by decide) ?_
        refine W.widen (k := 100000) (n := 1000000) (Nat.le_of_ble_eq_true rfl) (Nat.le_of_ble_eq_true rfl) ?_
        exact law_end ⟨hx, hb, hr, hml, hown, hts0, hX, hbl, hlocks, hgv⟩ hAs hS (lv_sub hl [2, 7] rfl)

set_option maxHeartbeats 4000000 in
set_option maxRecDepth 100000 in
theorem law_c11 {p : Program} {l : Launch} {e : Env} {s : State} {m : MethodId} {below : List Frame} {meth : Method} {c : Code} {b : Nat} {xs : Nat → Int32} (hst : l.stackTraces = false) (C0 : lw_At p s m meth c b 6 xs) {D : va_G} {k : Nat → ClassId} {e0 to mo o od : Nat} {u0 w0 : Nat → Nat} {A : Nat → Prop} (hA : ∀ q, s.heap.size ≤ q → A q) (hAs : ∀ q, A q → s.heap.size ≤ q) (hC : wCx D k s) (hNc : wNc s) (hHf : wHf e0 A s s.heap) {H : Heap} {locs : List Loc} {ls : Array Slot} (hP : va_P D vwCl (wL k to mo o od e0 u0 w0) H) (hD : va_D A (wL k to mo o od e0 u0 w0)) (hS : va_S A s.heap H locs) (hl : lv_has ls 9 [(0, .ref b), (1, .ref to), (2, .ref mo), (3, .ref o), (4, .ref od), (5, .int 0)]) : W p l e room_1 s m #[Value.ref b] below meth c H locs 100 20000 (lw_Z below #[Value.ref b] s) (F0 m 1029 ls []) := by
  obtain ⟨hx, hb, hr, hml, hown, hts0, hX, hbl, hlocks, hgv⟩ := C0
  have hts : ∀ w ∈ wsL_law, w.before #[Value.ref b] s = true := fun w h => hts0 w (wsL_law_in w h)
  have hbA : ¬ A b := fun h9 => absurd (hAs b h9) (Nat.not_le.mpr hbl)
  refine lv_aload_n hx hb dL_law_1029 rfl (lv_at hl 1 rfl) ?_
  refine lv_aload_n hx hb dL_law_1030 rfl (lv_at hl 0 rfl) ?_
  refine lv_iload hx hb dL_law_1031 (lv_at hl 5 rfl) ?_
  refine lv_iconst (v := 1) hx hb dL_law_1033 (by decide) ?_
  refine lv_iadd hx hb dL_law_1034 ?_
  refine w_top (y := 1) (by decide) ?_
  refine va_sld hx hb hX hbl hbA hS (vp_in_nI (n := 1) (N := 6) (by decide) (by decide)) dL_law_1035 ?_
  refine w_top (y := xs 1) rfl ?_
  refine lv_i2c (v := ((xs 1).toUInt32 % 65536).toInt32) hx hb dL_law_1036 rfl ?_
  refine lv_aload_n hx hb dL_law_1037 rfl (lv_at hl 0 rfl) ?_
  refine lv_iload hx hb dL_law_1038 (lv_at hl 5 rfl) ?_
  refine lv_iconst (v := 2) hx hb dL_law_1040 (by decide) ?_
  refine lv_iadd hx hb dL_law_1041 ?_
  refine w_top (y := 2) (by decide) ?_
  refine va_sld hx hb hX hbl hbA hS (vp_in_nI (n := 2) (N := 6) (by decide) (by decide)) dL_law_1042 ?_
  refine w_top (y := xs 2) rfl ?_
  refine lv_aload_n hx hb dL_law_1043 rfl (lv_at hl 0 rfl) ?_
  refine lv_iload hx hb dL_law_1044 (lv_at hl 5 rfl) ?_
  refine lv_iconst (v := 3) hx hb dL_law_1046 (by decide) ?_
  refine lv_iadd hx hb dL_law_1047 ?_
  refine w_top (y := 3) (by decide) ?_
  refine va_sld hx hb hX hbl hbA hS (vp_in_nI (n := 3) (N := 6) (by decide) (by decide)) dL_law_1048 ?_
  refine w_top (y := xs 3) rfl ?_
  refine lv_aload_n hx hb dL_law_1049 rfl (lv_at hl 3 rfl) ?_
  have hPc := hP.sub (ws' := [(to, .inr (12, [.ref (u0 0), .ref (u0 1), .ref (u0 2), .ref (u0 3), .ref (u0 4), .ref (u0 5), .int 0, .int 0, .int 0])), ((u0 0), .inl (k 3, 4, .inr (.inr (.inr (.inr (fun i => some (u0 (6 + i)))))))), ((u0 1), .inr (2, [.int 0, .ref e0, .int 0])), ((u0 2), .inr (2, [.int 0, .ref e0, .int 0])), ((u0 3), .inr (2, [.int 0, .ref e0, .int 0])), ((u0 6), .inr (4, [.ref (u0 10), .ref (u0 14), .int 0, .int 0, .int 0])), ((u0 10), .inl (k 0, 768, .inl (fun _ => 0))), ((u0 14), .inr (8, [.ref (u0 18), .int 1, .ref (u0 22)])), ((u0 18), .inl (k 1, 768, .inr (.inl (fun _ => 0)))), ((u0 7), .inr (4, [.ref (u0 11), .ref (u0 15), .int 0, .int 0, .int 0])), ((u0 11), .inl (k 0, 768, .inl (fun _ => 0))), ((u0 15), .inr (8, [.ref (u0 19), .int 1, .ref (u0 23)])), ((u0 19), .inl (k 1, 768, .inr (.inl (fun _ => 0)))), ((u0 8), .inr (4, [.ref (u0 12), .ref (u0 16), .int 0, .int 0, .int 0])), ((u0 12), .inl (k 0, 768, .inl (fun _ => 0))), ((u0 16), .inr (8, [.ref (u0 20), .int 1, .ref (u0 24)])), ((u0 20), .inl (k 1, 768, .inr (.inl (fun _ => 0)))), ((u0 9), .inr (4, [.ref (u0 13), .ref (u0 17), .int 0, .int 0, .int 0])), ((u0 13), .inl (k 0, 768, .inl (fun _ => 0))), ((u0 17), .inr (8, [.ref (u0 21), .int 1, .ref (u0 25)])), ((u0 21), .inl (k 1, 768, .inr (.inl (fun _ => 0)))), (o, .inl (k 1, 1, .inr (.inl (fun _ => 0))))]) [0, 1, 2, 3, 4, 5, 6, 7, 8, 9, 10, 11, 12, 13, 14, 15, 16, 17, 18, 19, 20, 29] rfl
  have hDc := hD.sub (ws' := [(to, .inr (12, [.ref (u0 0), .ref (u0 1), .ref (u0 2), .ref (u0 3), .ref (u0 4), .ref (u0 5), .int 0, .int 0, .int 0])), ((u0 0), .inl (k 3, 4, .inr (.inr (.inr (.inr (fun i => some (u0 (6 + i)))))))), ((u0 1), .inr (2, [.int 0, .ref e0, .int 0])), ((u0 2), .inr (2, [.int 0, .ref e0, .int 0])), ((u0 3), .inr (2, [.int 0, .ref e0, .int 0])), ((u0 6), .inr (4, [.ref (u0 10), .ref (u0 14), .int 0, .int 0, .int 0])), ((u0 10), .inl (k 0, 768, .inl (fun _ => 0))), ((u0 14), .inr (8, [.ref (u0 18), .int 1, .ref (u0 22)])), ((u0 18), .inl (k 1, 768, .inr (.inl (fun _ => 0)))), ((u0 7), .inr (4, [.ref (u0 11), .ref (u0 15), .int 0, .int 0, .int 0])), ((u0 11), .inl (k 0, 768, .inl (fun _ => 0))), ((u0 15), .inr (8, [.ref (u0 19), .int 1, .ref (u0 23)])), ((u0 19), .inl (k 1, 768, .inr (.inl (fun _ => 0)))), ((u0 8), .inr (4, [.ref (u0 12), .ref (u0 16), .int 0, .int 0, .int 0])), ((u0 12), .inl (k 0, 768, .inl (fun _ => 0))), ((u0 16), .inr (8, [.ref (u0 20), .int 1, .ref (u0 24)])), ((u0 20), .inl (k 1, 768, .inr (.inl (fun _ => 0)))), ((u0 9), .inr (4, [.ref (u0 13), .ref (u0 17), .int 0, .int 0, .int 0])), ((u0 13), .inl (k 0, 768, .inl (fun _ => 0))), ((u0 17), .inr (8, [.ref (u0 21), .int 1, .ref (u0 25)])), ((u0 21), .inl (k 1, 768, .inr (.inl (fun _ => 0)))), (o, .inl (k 1, 1, .inr (.inl (fun _ => 0))))]) [0, 1, 2, 3, 4, 5, 6, 7, 8, 9, 10, 11, 12, 13, 14, 15, 16, 17, 18, 19, 20, 29] (by decide) rfl
  have hFc := va_free (wc := [(to, .inr (12, [.ref (u0 0), .ref (u0 1), .ref (u0 2), .ref (u0 3), .ref (u0 4), .ref (u0 5), .int 0, .int 0, .int 0])), ((u0 0), .inl (k 3, 4, .inr (.inr (.inr (.inr (fun i => some (u0 (6 + i)))))))), ((u0 1), .inr (2, [.int 0, .ref e0, .int 0])), ((u0 2), .inr (2, [.int 0, .ref e0, .int 0])), ((u0 3), .inr (2, [.int 0, .ref e0, .int 0])), ((u0 6), .inr (4, [.ref (u0 10), .ref (u0 14), .int 0, .int 0, .int 0])), ((u0 10), .inl (k 0, 768, .inl (fun _ => 0))), ((u0 14), .inr (8, [.ref (u0 18), .int 1, .ref (u0 22)])), ((u0 18), .inl (k 1, 768, .inr (.inl (fun _ => 0)))), ((u0 7), .inr (4, [.ref (u0 11), .ref (u0 15), .int 0, .int 0, .int 0])), ((u0 11), .inl (k 0, 768, .inl (fun _ => 0))), ((u0 15), .inr (8, [.ref (u0 19), .int 1, .ref (u0 23)])), ((u0 19), .inl (k 1, 768, .inr (.inl (fun _ => 0)))), ((u0 8), .inr (4, [.ref (u0 12), .ref (u0 16), .int 0, .int 0, .int 0])), ((u0 12), .inl (k 0, 768, .inl (fun _ => 0))), ((u0 16), .inr (8, [.ref (u0 20), .int 1, .ref (u0 24)])), ((u0 20), .inl (k 1, 768, .inr (.inl (fun _ => 0)))), ((u0 9), .inr (4, [.ref (u0 13), .ref (u0 17), .int 0, .int 0, .int 0])), ((u0 13), .inl (k 0, 768, .inl (fun _ => 0))), ((u0 17), .inr (8, [.ref (u0 21), .int 1, .ref (u0 25)])), ((u0 21), .inl (k 1, 768, .inr (.inl (fun _ => 0)))), (o, .inl (k 1, 1, .inr (.inl (fun _ => 0))))]) hD hS hA [0, 1, 2, 3, 4, 5, 6, 7, 8, 9, 10, 11, 12, 13, 14, 15, 16, 17, 18, 19, 20, 29] rfl
  refine va_calli (vx_runSW (As := [.ref to, .int (((xs 1).toUInt32 % 65536).toInt32), .int (xs 2), .int (xs 3), .ref o]) (rest := []) ⟨hx, hb, hml, hown, hts⟩ (k_L_both l hst D k e0 H.size to o u0 (fun _ => 0) (((xs 1).toUInt32 % 65536).toInt32) (xs 2) (xs 3)) (vx_cwSW 5 hts gL_law_L_both rfl rfl rfl (by decide +kernel) ⟨Nat.le_of_ble_eq_true rfl, Nat.le_of_ble_eq_true rfl⟩) ⟨lPc_fb, lPc_go hC hNc hHf hS hPc hDc hFc⟩ rfl rfl hl.1 rfl (lv_room (Nat.le_of_ble_eq_true rfl)) dL_law_1050 ⟨Nat.le_of_ble_eq_true rfl, Nat.le_of_ble_eq_true rfl⟩) hS (fun q9 _ h9 => hFc q9 h9) hFc (fun rL uL t H locs ht hvm hwL hB hz1 hk1 hS => ?_)
  obtain ⟨hP1, hD1⟩ := hB
  rw [ht] at hP1
  obtain ⟨hP, hD⟩ := va_join (wr := [(mo, .inr (13, [.int 0, .ref (w0 0), .int 0, .ref (w0 1), .int 0, .int 0, .ref (w0 2), .int 0, .ref (w0 3), .ref (w0 4), .int 0])), ((w0 0), .inl (k 5, 3, .inr (.inr (.inr (.inr (fun i => some (w0 (5 + i)))))))), ((w0 5), .inl (k 0, 768, .inl (fun _ => 0))), ((w0 6), .inl (k 0, 768, .inl (fun _ => 0))), ((w0 7), .inl (k 0, 768, .inl (fun _ => 0))), ((w0 1), .inl (k 6, 8, .inr (.inr (.inr (.inr (fun _ => none)))))), ((w0 2), .inl (k 6, 20, .inr (.inr (.inr (.inr (fun _ => none)))))), ((w0 4), .inl (k 6, 6, .inr (.inr (.inr (.inr (fun _ => none)))))), (od, .inl (k 8, 1, .inr (.inr (.inr (.inl (fun _ => 0))))))]) (w1 := [(o, .inl (k 1, 1, .inr (.inl uL)))]) hP hD [0, 1, 2, 3, 4, 5, 6, 7, 8, 9, 10, 11, 12, 13, 14, 15, 16, 17, 18, 19, 20, 29] [21, 22, 23, 24, 25, 26, 27, 28, 30] rfl rfl (by decide) (by decide) hk1 hFc hP1 hD1
  have hP : va_P D vwCl [(mo, .inr (13, [.int 0, .ref (w0 0), .int 0, .ref (w0 1), .int 0, .int 0, .ref (w0 2), .int 0, .ref (w0 3), .ref (w0 4), .int 0])), ((w0 0), .inl (k 5, 3, .inr (.inr (.inr (.inr (fun i => some (w0 (5 + i)))))))), ((w0 5), .inl (k 0, 768, .inl (fun _ => 0))), ((w0 6), .inl (k 0, 768, .inl (fun _ => 0))), ((w0 7), .inl (k 0, 768, .inl (fun _ => 0))), ((w0 1), .inl (k 6, 8, .inr (.inr (.inr (.inr (fun _ => none)))))), ((w0 2), .inl (k 6, 20, .inr (.inr (.inr (.inr (fun _ => none)))))), ((w0 4), .inl (k 6, 6, .inr (.inr (.inr (.inr (fun _ => none)))))), (od, .inl (k 8, 1, .inr (.inr (.inr (.inl (fun _ => 0)))))), (o, .inl (k 1, 1, .inr (.inl uL)))] H := hP
  have hD : va_D A [(mo, .inr (13, [.int 0, .ref (w0 0), .int 0, .ref (w0 1), .int 0, .int 0, .ref (w0 2), .int 0, .ref (w0 3), .ref (w0 4), .int 0])), ((w0 0), .inl (k 5, 3, .inr (.inr (.inr (.inr (fun i => some (w0 (5 + i)))))))), ((w0 5), .inl (k 0, 768, .inl (fun _ => 0))), ((w0 6), .inl (k 0, 768, .inl (fun _ => 0))), ((w0 7), .inl (k 0, 768, .inl (fun _ => 0))), ((w0 1), .inl (k 6, 8, .inr (.inr (.inr (.inr (fun _ => none)))))), ((w0 2), .inl (k 6, 20, .inr (.inr (.inr (.inr (fun _ => none)))))), ((w0 4), .inl (k 6, 6, .inr (.inr (.inr (.inr (fun _ => none)))))), (od, .inl (k 8, 1, .inr (.inr (.inr (.inl (fun _ => 0)))))), (o, .inl (k 1, 1, .inr (.inl uL)))] := hD
  rcases hwL with ⟨hok, rfl⟩ | ⟨hok, rfl⟩
  · refine lv_istore (lv' := [(6, .int 1), (0, .ref b), (1, .ref to), (2, .ref mo), (3, .ref o), (4, .ref od), (5, .int 0)]) hx hb dL_law_1053 hl (by decide) rfl (fun ls hl => ?_)
    refine lv_aload_n hx hb dL_law_1055 rfl (lv_at hl 3 rfl) ?_
    refine lv_aload_n hx hb dL_law_1056 rfl (lv_at hl 1 rfl) ?_
    refine lv_iload hx hb dL_law_1057 (lv_at hl 6 rfl) ?_
    refine lv_iconst (v := 1) hx hb dL_law_1059 (by decide) ?_
    refine lv_iadd hx hb dL_law_1060 ?_
    refine w_top (y := 1) (by decide) ?_
    refine va_sld hx hb hX hbl hbA hS (vp_in_nI (n := 1) (N := 6) (by decide) (by decide)) dL_law_1061 ?_
    refine w_top (y := xs 1) rfl ?_
    refine lv_i2c (v := ((xs 1).toUInt32 % 65536).toInt32) hx hb dL_law_1062 rfl ?_
    refine lv_aload_n hx hb dL_law_1063 rfl (lv_at hl 1 rfl) ?_
    refine lv_iload hx hb dL_law_1064 (lv_at hl 6 rfl) ?_
    refine lv_iconst (v := 2) hx hb dL_law_1066 (by decide) ?_
    refine lv_iadd hx hb dL_law_1067 ?_
    refine w_top (y := 2) (by decide) ?_
    refine va_sld hx hb hX hbl hbA hS (vp_in_nI (n := 2) (N := 6) (by decide) (by decide)) dL_law_1068 ?_
    refine w_top (y := xs 2) rfl ?_
    refine lv_aload_n hx hb dL_law_1069 rfl (lv_at hl 1 rfl) ?_
    refine lv_iload hx hb dL_law_1070 (lv_at hl 6 rfl) ?_
    refine lv_iconst (v := 3) hx hb dL_law_1072 (by decide) ?_
    refine lv_iadd hx hb dL_law_1073 ?_
    refine w_top (y := 3) (by decide) ?_
    refine va_sld hx hb hX hbl hbA hS (vp_in_nI (n := 3) (N := 6) (by decide) (by decide)) dL_law_1074 ?_
    refine w_top (y := xs 3) rfl ?_
    have hPc := hP.sub (ws' := [(mo, .inr (13, [.int 0, .ref (w0 0), .int 0, .ref (w0 1), .int 0, .int 0, .ref (w0 2), .int 0, .ref (w0 3), .ref (w0 4), .int 0])), ((w0 0), .inl (k 5, 3, .inr (.inr (.inr (.inr (fun i => some (w0 (5 + i)))))))), ((w0 5), .inl (k 0, 768, .inl (fun _ => 0))), ((w0 6), .inl (k 0, 768, .inl (fun _ => 0))), ((w0 7), .inl (k 0, 768, .inl (fun _ => 0))), ((w0 1), .inl (k 6, 8, .inr (.inr (.inr (.inr (fun _ => none)))))), ((w0 2), .inl (k 6, 20, .inr (.inr (.inr (.inr (fun _ => none)))))), ((w0 4), .inl (k 6, 6, .inr (.inr (.inr (.inr (fun _ => none))))))]) [0, 1, 2, 3, 4, 5, 6, 7] rfl
    have hDc := hD.sub (ws' := [(mo, .inr (13, [.int 0, .ref (w0 0), .int 0, .ref (w0 1), .int 0, .int 0, .ref (w0 2), .int 0, .ref (w0 3), .ref (w0 4), .int 0])), ((w0 0), .inl (k 5, 3, .inr (.inr (.inr (.inr (fun i => some (w0 (5 + i)))))))), ((w0 5), .inl (k 0, 768, .inl (fun _ => 0))), ((w0 6), .inl (k 0, 768, .inl (fun _ => 0))), ((w0 7), .inl (k 0, 768, .inl (fun _ => 0))), ((w0 1), .inl (k 6, 8, .inr (.inr (.inr (.inr (fun _ => none)))))), ((w0 2), .inl (k 6, 20, .inr (.inr (.inr (.inr (fun _ => none)))))), ((w0 4), .inl (k 6, 6, .inr (.inr (.inr (.inr (fun _ => none))))))]) [0, 1, 2, 3, 4, 5, 6, 7] (by decide) rfl
    have hFc := va_free (wc := [(mo, .inr (13, [.int 0, .ref (w0 0), .int 0, .ref (w0 1), .int 0, .int 0, .ref (w0 2), .int 0, .ref (w0 3), .ref (w0 4), .int 0])), ((w0 0), .inl (k 5, 3, .inr (.inr (.inr (.inr (fun i => some (w0 (5 + i)))))))), ((w0 5), .inl (k 0, 768, .inl (fun _ => 0))), ((w0 6), .inl (k 0, 768, .inl (fun _ => 0))), ((w0 7), .inl (k 0, 768, .inl (fun _ => 0))), ((w0 1), .inl (k 6, 8, .inr (.inr (.inr (.inr (fun _ => none)))))), ((w0 2), .inl (k 6, 20, .inr (.inr (.inr (.inr (fun _ => none)))))), ((w0 4), .inl (k 6, 6, .inr (.inr (.inr (.inr (fun _ => none))))))]) hD hS hA [0, 1, 2, 3, 4, 5, 6, 7] rfl
    refine va_calli (va_runV (As := [.int (((xs 1).toUInt32 % 65536).toInt32), .int (xs 2), .int (xs 3)]) (rest := []) ⟨hx, hb, hml, hown, hts⟩ (k_X12_both l D k e0 H.size mo w0 (((xs 1).toUInt32 % 65536).toInt32) (xs 2) (xs 3)) (cwV 3 hts gL_law_X12_both rfl rfl rfl (by decide +kernel) ⟨Nat.le_of_ble_eq_true rfl, Nat.le_of_ble_eq_true rfl⟩) ⟨mPc_fb, va_recv hC.1 hPc (ci := 13) (q0 := 0) rfl rfl, mPc_go hC hHf hS hPc hDc hFc⟩ rfl rfl hl.1 rfl (lv_room (Nat.le_of_ble_eq_true rfl)) dL_law_1075 ⟨Nat.le_of_ble_eq_true rfl, Nat.le_of_ble_eq_true rfl⟩) hS (fun q9 _ h9 => hFc q9 h9) hFc (fun r2 u1 t H locs ht hvm hw_r2 hB hz1 hk1 hS => ?_)
    obtain ⟨hP1, hD1⟩ := hB
    rw [ht] at hP1
    obtain ⟨hP, hD⟩ := va_join (wr := [(od, .inl (k 8, 1, .inr (.inr (.inr (.inl (fun _ => 0)))))), (o, .inl (k 1, 1, .inr (.inl uL)))]) (w1 := [(mo, .inr (13, u1))]) hP hD [0, 1, 2, 3, 4, 5, 6, 7] [8, 9] rfl rfl (by decide) (by decide) hk1 hFc hP1 hD1
    have hP : va_P D vwCl [(od, .inl (k 8, 1, .inr (.inr (.inr (.inl (fun _ => 0)))))), (o, .inl (k 1, 1, .inr (.inl uL))), (mo, .inr (13, u1))] H := hP
    have hD : va_D A [(od, .inl (k 8, 1, .inr (.inr (.inr (.inl (fun _ => 0)))))), (o, .inl (k 1, 1, .inr (.inl uL))), (mo, .inr (13, u1))] := hD
    have hth : u1[0]? = some (.int 1) := by rcases hw_r2 with ⟨z1, _⟩ | ⟨_, z1⟩; exact absurd z1 hok; exact z1
    refine lv_istore (lv' := [(7, .int r2), (6, .int 1), (0, .ref b), (1, .ref to), (2, .ref mo), (3, .ref o), (4, .ref od), (5, .int 0)]) hx hb dL_law_1078 hl (by decide) rfl (fun ls hl => ?_)
    refine lv_aload_n hx hb dL_law_1080 rfl (lv_at hl 4 rfl) ?_
    refine pz_i (va_runV (As := []) (rest := []) ⟨hx, hb, hml, hown, hts⟩ (k_X12_thrown l D k H mo u1 1 (hP.sub [2] rfl) hth) (cwV 0 hts gL_law_X12_thrown rfl rfl rfl (by decide +kernel) ⟨Nat.le_of_ble_eq_true rfl, Nat.le_of_ble_eq_true rfl⟩) ⟨pPc_fb, va_recv hC.1 hP (ci := 13) (q0 := 2) rfl rfl, pPc_go hC⟩ rfl rfl hl.1 rfl (lv_room (Nat.le_of_ble_eq_true rfl)) dL_law_1081 ⟨Nat.le_of_ble_eq_true rfl, Nat.le_of_ble_eq_true rfl⟩) hS (fun r4 locs hw_r4 hS => ?_)
    subst hw_r4
    refine lv_iload hx hb dL_law_1084 (lv_at hl 1 rfl) ?_
    refine lv_icmp_eq (tgt := 1091) hx hb dL_law_1086 (by decide) (fun c_1086 => ?_) (fun c_1086 => absurd (by decide) c_1086)
    refine lv_iload hx hb dL_law_1091 (lv_at hl 1 rfl) ?_
    refine lv_if_ne (tgt := 1108) hx hb dL_law_1093 (by decide) (fun c_1093 => ?_) (fun c_1093 => absurd c_1093 (by decide))
    refine lv_goto (tgt := 2046) hx hb dL_law_1108 (by decide) ?_
    refine W.widen (k := 100000) (n := 1000000) (Nat.le_of_ble_eq_true rfl) (Nat.le_of_ble_eq_true rfl) ?_
    exact law_end ⟨hx, hb, hr, hml, hown, hts0, hX, hbl, hlocks, hgv⟩ hAs hS (lv_sub hl [2, 7] rfl)
  · refine lv_istore (lv' := [(6, .int 2), (0, .ref b), (1, .ref to), (2, .ref mo), (3, .ref o), (4, .ref od), (5, .int 0)]) hx hb dL_law_1053 hl (by decide) rfl (fun ls hl => ?_)
    refine lv_aload_n hx hb dL_law_1055 rfl (lv_at hl 3 rfl) ?_
    refine lv_aload_n hx hb dL_law_1056 rfl (lv_at hl 1 rfl) ?_
    refine lv_iload hx hb dL_law_1057 (lv_at hl 6 rfl) ?_
    refine lv_iconst (v := 1) hx hb dL_law_1059 (by decide) ?_
    refine lv_iadd hx hb dL_law_1060 ?_
    refine w_top (y := 1) (by decide) ?_
    refine va_sld hx hb hX hbl hbA hS (vp_in_nI (n := 1) (N := 6) (by decide) (by decide)) dL_law_1061 ?_
    refine w_top (y := xs 1) rfl ?_
    refine lv_i2c (v := ((xs 1).toUInt32 % 65536).toInt32) hx hb dL_law_1062 rfl ?_
    refine lv_aload_n hx hb dL_law_1063 rfl (lv_at hl 1 rfl) ?_
    refine lv_iload hx hb dL_law_1064 (lv_at hl 6 rfl) ?_
    refine lv_iconst (v := 2) hx hb dL_law_1066 (by decide) ?_
    refine lv_iadd hx hb dL_law_1067 ?_
    refine w_top (y := 2) (by decide) ?_
    refine va_sld hx hb hX hbl hbA hS (vp_in_nI (n := 2) (N := 6) (by decide) (by decide)) dL_law_1068 ?_
    refine w_top (y := xs 2) rfl ?_
    refine lv_aload_n hx hb dL_law_1069 rfl (lv_at hl 1 rfl) ?_
    refine lv_iload hx hb dL_law_1070 (lv_at hl 6 rfl) ?_
    refine lv_iconst (v := 3) hx hb dL_law_1072 (by decide) ?_
    refine lv_iadd hx hb dL_law_1073 ?_
    refine w_top (y := 3) (by decide) ?_
    refine va_sld hx hb hX hbl hbA hS (vp_in_nI (n := 3) (N := 6) (by decide) (by decide)) dL_law_1074 ?_
    refine w_top (y := xs 3) rfl ?_
    have hPc := hP.sub (ws' := [(mo, .inr (13, [.int 0, .ref (w0 0), .int 0, .ref (w0 1), .int 0, .int 0, .ref (w0 2), .int 0, .ref (w0 3), .ref (w0 4), .int 0])), ((w0 0), .inl (k 5, 3, .inr (.inr (.inr (.inr (fun i => some (w0 (5 + i)))))))), ((w0 5), .inl (k 0, 768, .inl (fun _ => 0))), ((w0 6), .inl (k 0, 768, .inl (fun _ => 0))), ((w0 7), .inl (k 0, 768, .inl (fun _ => 0))), ((w0 1), .inl (k 6, 8, .inr (.inr (.inr (.inr (fun _ => none)))))), ((w0 2), .inl (k 6, 20, .inr (.inr (.inr (.inr (fun _ => none)))))), ((w0 4), .inl (k 6, 6, .inr (.inr (.inr (.inr (fun _ => none))))))]) [0, 1, 2, 3, 4, 5, 6, 7] rfl
    have hDc := hD.sub (ws' := [(mo, .inr (13, [.int 0, .ref (w0 0), .int 0, .ref (w0 1), .int 0, .int 0, .ref (w0 2), .int 0, .ref (w0 3), .ref (w0 4), .int 0])), ((w0 0), .inl (k 5, 3, .inr (.inr (.inr (.inr (fun i => some (w0 (5 + i)))))))), ((w0 5), .inl (k 0, 768, .inl (fun _ => 0))), ((w0 6), .inl (k 0, 768, .inl (fun _ => 0))), ((w0 7), .inl (k 0, 768, .inl (fun _ => 0))), ((w0 1), .inl (k 6, 8, .inr (.inr (.inr (.inr (fun _ => none)))))), ((w0 2), .inl (k 6, 20, .inr (.inr (.inr (.inr (fun _ => none)))))), ((w0 4), .inl (k 6, 6, .inr (.inr (.inr (.inr (fun _ => none))))))]) [0, 1, 2, 3, 4, 5, 6, 7] (by decide) rfl
    have hFc := va_free (wc := [(mo, .inr (13, [.int 0, .ref (w0 0), .int 0, .ref (w0 1), .int 0, .int 0, .ref (w0 2), .int 0, .ref (w0 3), .ref (w0 4), .int 0])), ((w0 0), .inl (k 5, 3, .inr (.inr (.inr (.inr (fun i => some (w0 (5 + i)))))))), ((w0 5), .inl (k 0, 768, .inl (fun _ => 0))), ((w0 6), .inl (k 0, 768, .inl (fun _ => 0))), ((w0 7), .inl (k 0, 768, .inl (fun _ => 0))), ((w0 1), .inl (k 6, 8, .inr (.inr (.inr (.inr (fun _ => none)))))), ((w0 2), .inl (k 6, 20, .inr (.inr (.inr (.inr (fun _ => none)))))), ((w0 4), .inl (k 6, 6, .inr (.inr (.inr (.inr (fun _ => none))))))]) hD hS hA [0, 1, 2, 3, 4, 5, 6, 7] rfl
    refine va_calli (va_runV (As := [.int (((xs 1).toUInt32 % 65536).toInt32), .int (xs 2), .int (xs 3)]) (rest := []) ⟨hx, hb, hml, hown, hts⟩ (k_X12_both l D k e0 H.size mo w0 (((xs 1).toUInt32 % 65536).toInt32) (xs 2) (xs 3)) (cwV 3 hts gL_law_X12_both rfl rfl rfl (by decide +kernel) ⟨Nat.le_of_ble_eq_true rfl, Nat.le_of_ble_eq_true rfl⟩) ⟨mPc_fb, va_recv hC.1 hPc (ci := 13) (q0 := 0) rfl rfl, mPc_go hC hHf hS hPc hDc hFc⟩ rfl rfl hl.1 rfl (lv_room (Nat.le_of_ble_eq_true rfl)) dL_law_1075 ⟨Nat.le_of_ble_eq_true rfl, Nat.le_of_ble_eq_true rfl⟩) hS (fun q9 _ h9 => hFc q9 h9) hFc (fun r6 u5 t H locs ht hvm hw_r6 hB hz1 hk1 hS => ?_)
    obtain ⟨hP1, hD1⟩ := hB
    rw [ht] at hP1
    obtain ⟨hP, hD⟩ := va_join (wr := [(od, .inl (k 8, 1, .inr (.inr (.inr (.inl (fun _ => 0)))))), (o, .inl (k 1, 1, .inr (.inl uL)))]) (w1 := [(mo, .inr (13, u5))]) hP hD [0, 1, 2, 3, 4, 5, 6, 7] [8, 9] rfl rfl (by decide) (by decide) hk1 hFc hP1 hD1
    have hP : va_P D vwCl [(od, .inl (k 8, 1, .inr (.inr (.inr (.inl (fun _ => 0)))))), (o, .inl (k 1, 1, .inr (.inl uL))), (mo, .inr (13, u5))] H := hP
    have hD : va_D A [(od, .inl (k 8, 1, .inr (.inr (.inr (.inl (fun _ => 0)))))), (o, .inl (k 1, 1, .inr (.inl uL))), (mo, .inr (13, u5))] := hD
    have hth : u5[0]? = some (.int 2) := by rcases hw_r6 with ⟨_, z1⟩ | ⟨z1, _⟩; exact z1; exact absurd hok z1
    refine lv_istore (lv' := [(7, .int r6), (6, .int 2), (0, .ref b), (1, .ref to), (2, .ref mo), (3, .ref o), (4, .ref od), (5, .int 0)]) hx hb dL_law_1078 hl (by decide) rfl (fun ls hl => ?_)
    refine lv_aload_n hx hb dL_law_1080 rfl (lv_at hl 4 rfl) ?_
    refine pz_i (va_runV (As := []) (rest := []) ⟨hx, hb, hml, hown, hts⟩ (k_X12_thrown l D k H mo u5 2 (hP.sub [2] rfl) hth) (cwV 0 hts gL_law_X12_thrown rfl rfl rfl (by decide +kernel) ⟨Nat.le_of_ble_eq_true rfl, Nat.le_of_ble_eq_true rfl⟩) ⟨pPc_fb, va_recv hC.1 hP (ci := 13) (q0 := 2) rfl rfl, pPc_go hC⟩ rfl rfl hl.1 rfl (lv_room (Nat.le_of_ble_eq_true rfl)) dL_law_1081 ⟨Nat.le_of_ble_eq_true rfl, Nat.le_of_ble_eq_true rfl⟩) hS (fun r8 locs hw_r8 hS => ?_)
    subst hw_r8
    refine lv_iload hx hb dL_law_1084 (lv_at hl 1 rfl) ?_
    refine lv_icmp_eq (tgt := 1091) hx hb dL_law_1086 (by decide) (fun c_1086 => ?_) (fun c_1086 => absurd (by decide) c_1086)
    refine lv_iload hx hb dL_law_1091 (lv_at hl 1 rfl) ?_
    refine lv_if_ne (tgt := 1108) hx hb dL_law_1093 (by decide) (fun c_1093 => ?_) (fun c_1093 => absurd c_1093 (by decide))
    refine lv_goto (tgt := 2046) hx hb dL_law_1108 (by decide) ?_
    refine W.widen (k := 100000) (n := 1000000) (Nat.le_of_ble_eq_true rfl) (Nat.le_of_ble_eq_true rfl) ?_
    exact law_end ⟨hx, hb, hr, hml, hown, hts0, hX, hbl, hlocks, hgv⟩ hAs hS (lv_sub hl [2, 7] rfl)

set_option maxHeartbeats 4000000 in
set_option maxRecDepth 100000 in
theorem law_c12 {p : Program} {l : Launch} {e : Env} {s : State} {m : MethodId} {below : List Frame} {meth : Method} {c : Code} {b : Nat} {xs : Nat → Int32} (hst : l.stackTraces = false) (C0 : lw_At p s m meth c b 6 xs) {D : va_G} {k : Nat → ClassId} {e0 to mo o od : Nat} {u0 w0 : Nat → Nat} {A : Nat → Prop} (hA : ∀ q, s.heap.size ≤ q → A q) (hAs : ∀ q, A q → s.heap.size ≤ q) (hC : wCx D k s) (hNc : wNc s) (hHf : wHf e0 A s s.heap) {H : Heap} {locs : List Loc} {ls : Array Slot} (hP : va_P D vwCl (wL k to mo o od e0 u0 w0) H) (hD : va_D A (wL k to mo o od e0 u0 w0)) (hS : va_S A s.heap H locs) (hl : lv_has ls 9 [(0, .ref b), (1, .ref to), (2, .ref mo), (3, .ref o), (4, .ref od), (5, .int 0)]) : W p l e room_1 s m #[Value.ref b] below meth c H locs 100 20000 (lw_Z below #[Value.ref b] s) (F0 m 1111 ls []) := by
  obtain ⟨hx, hb, hr, hml, hown, hts0, hX, hbl, hlocks, hgv⟩ := C0
  have hts : ∀ w ∈ wsL_law, w.before #[Value.ref b] s = true := fun w h => hts0 w (wsL_law_in w h)
  have hbA : ¬ A b := fun h9 => absurd (hAs b h9) (Nat.not_le.mpr hbl)
  refine lv_aload_n hx hb dL_law_1111 rfl (lv_at hl 1 rfl) ?_
  refine lv_aload_n hx hb dL_law_1112 rfl (lv_at hl 0 rfl) ?_
  refine lv_iload hx hb dL_law_1113 (lv_at hl 5 rfl) ?_
  refine lv_iconst (v := 1) hx hb dL_law_1115 (by decide) ?_
  refine lv_iadd hx hb dL_law_1116 ?_
  refine w_top (y := 1) (by decide) ?_
  refine va_sld hx hb hX hbl hbA hS (vp_in_nI (n := 1) (N := 6) (by decide) (by decide)) dL_law_1117 ?_
  refine w_top (y := xs 1) rfl ?_
  refine lv_aload_n hx hb dL_law_1118 rfl (lv_at hl 0 rfl) ?_
  refine lv_iload hx hb dL_law_1119 (lv_at hl 5 rfl) ?_
  refine lv_iconst (v := 2) hx hb dL_law_1121 (by decide) ?_
  refine lv_iadd hx hb dL_law_1122 ?_
  refine w_top (y := 2) (by decide) ?_
  refine va_sld hx hb hX hbl hbA hS (vp_in_nI (n := 2) (N := 6) (by decide) (by decide)) dL_law_1123 ?_
  refine w_top (y := xs 2) rfl ?_
  refine lv_i2c (v := ((xs 2).toUInt32 % 65536).toInt32) hx hb dL_law_1124 rfl ?_
  refine lv_aload_n hx hb dL_law_1125 rfl (lv_at hl 0 rfl) ?_
  refine lv_iload hx hb dL_law_1126 (lv_at hl 5 rfl) ?_
  refine lv_iconst (v := 3) hx hb dL_law_1128 (by decide) ?_
  refine lv_iadd hx hb dL_law_1129 ?_
  refine w_top (y := 3) (by decide) ?_
  refine va_sld hx hb hX hbl hbA hS (vp_in_nI (n := 3) (N := 6) (by decide) (by decide)) dL_law_1130 ?_
  refine w_top (y := xs 3) rfl ?_
  refine lv_aload_n hx hb dL_law_1131 rfl (lv_at hl 0 rfl) ?_
  refine lv_iload hx hb dL_law_1132 (lv_at hl 5 rfl) ?_
  refine lv_iconst (v := 4) hx hb dL_law_1134 (by decide) ?_
  refine lv_iadd hx hb dL_law_1135 ?_
  refine w_top (y := 4) (by decide) ?_
  refine va_sld hx hb hX hbl hbA hS (vp_in_nI (n := 4) (N := 6) (by decide) (by decide)) dL_law_1136 ?_
  refine w_top (y := xs 4) rfl ?_
  refine lv_aload_n hx hb dL_law_1137 rfl (lv_at hl 3 rfl) ?_
  have hPc := hP.sub (ws' := [(to, .inr (12, [.ref (u0 0), .ref (u0 1), .ref (u0 2), .ref (u0 3), .ref (u0 4), .ref (u0 5), .int 0, .int 0, .int 0])), ((u0 0), .inl (k 3, 4, .inr (.inr (.inr (.inr (fun i => some (u0 (6 + i)))))))), ((u0 1), .inr (2, [.int 0, .ref e0, .int 0])), ((u0 2), .inr (2, [.int 0, .ref e0, .int 0])), ((u0 3), .inr (2, [.int 0, .ref e0, .int 0])), ((u0 6), .inr (4, [.ref (u0 10), .ref (u0 14), .int 0, .int 0, .int 0])), ((u0 10), .inl (k 0, 768, .inl (fun _ => 0))), ((u0 14), .inr (8, [.ref (u0 18), .int 1, .ref (u0 22)])), ((u0 18), .inl (k 1, 768, .inr (.inl (fun _ => 0)))), ((u0 7), .inr (4, [.ref (u0 11), .ref (u0 15), .int 0, .int 0, .int 0])), ((u0 11), .inl (k 0, 768, .inl (fun _ => 0))), ((u0 15), .inr (8, [.ref (u0 19), .int 1, .ref (u0 23)])), ((u0 19), .inl (k 1, 768, .inr (.inl (fun _ => 0)))), ((u0 8), .inr (4, [.ref (u0 12), .ref (u0 16), .int 0, .int 0, .int 0])), ((u0 12), .inl (k 0, 768, .inl (fun _ => 0))), ((u0 16), .inr (8, [.ref (u0 20), .int 1, .ref (u0 24)])), ((u0 20), .inl (k 1, 768, .inr (.inl (fun _ => 0)))), ((u0 9), .inr (4, [.ref (u0 13), .ref (u0 17), .int 0, .int 0, .int 0])), ((u0 13), .inl (k 0, 768, .inl (fun _ => 0))), ((u0 17), .inr (8, [.ref (u0 21), .int 1, .ref (u0 25)])), ((u0 21), .inl (k 1, 768, .inr (.inl (fun _ => 0)))), (o, .inl (k 1, 1, .inr (.inl (fun _ => 0))))]) [0, 1, 2, 3, 4, 5, 6, 7, 8, 9, 10, 11, 12, 13, 14, 15, 16, 17, 18, 19, 20, 29] rfl
  have hDc := hD.sub (ws' := [(to, .inr (12, [.ref (u0 0), .ref (u0 1), .ref (u0 2), .ref (u0 3), .ref (u0 4), .ref (u0 5), .int 0, .int 0, .int 0])), ((u0 0), .inl (k 3, 4, .inr (.inr (.inr (.inr (fun i => some (u0 (6 + i)))))))), ((u0 1), .inr (2, [.int 0, .ref e0, .int 0])), ((u0 2), .inr (2, [.int 0, .ref e0, .int 0])), ((u0 3), .inr (2, [.int 0, .ref e0, .int 0])), ((u0 6), .inr (4, [.ref (u0 10), .ref (u0 14), .int 0, .int 0, .int 0])), ((u0 10), .inl (k 0, 768, .inl (fun _ => 0))), ((u0 14), .inr (8, [.ref (u0 18), .int 1, .ref (u0 22)])), ((u0 18), .inl (k 1, 768, .inr (.inl (fun _ => 0)))), ((u0 7), .inr (4, [.ref (u0 11), .ref (u0 15), .int 0, .int 0, .int 0])), ((u0 11), .inl (k 0, 768, .inl (fun _ => 0))), ((u0 15), .inr (8, [.ref (u0 19), .int 1, .ref (u0 23)])), ((u0 19), .inl (k 1, 768, .inr (.inl (fun _ => 0)))), ((u0 8), .inr (4, [.ref (u0 12), .ref (u0 16), .int 0, .int 0, .int 0])), ((u0 12), .inl (k 0, 768, .inl (fun _ => 0))), ((u0 16), .inr (8, [.ref (u0 20), .int 1, .ref (u0 24)])), ((u0 20), .inl (k 1, 768, .inr (.inl (fun _ => 0)))), ((u0 9), .inr (4, [.ref (u0 13), .ref (u0 17), .int 0, .int 0, .int 0])), ((u0 13), .inl (k 0, 768, .inl (fun _ => 0))), ((u0 17), .inr (8, [.ref (u0 21), .int 1, .ref (u0 25)])), ((u0 21), .inl (k 1, 768, .inr (.inl (fun _ => 0)))), (o, .inl (k 1, 1, .inr (.inl (fun _ => 0))))]) [0, 1, 2, 3, 4, 5, 6, 7, 8, 9, 10, 11, 12, 13, 14, 15, 16, 17, 18, 19, 20, 29] (by decide) rfl
  have hFc := va_free (wc := [(to, .inr (12, [.ref (u0 0), .ref (u0 1), .ref (u0 2), .ref (u0 3), .ref (u0 4), .ref (u0 5), .int 0, .int 0, .int 0])), ((u0 0), .inl (k 3, 4, .inr (.inr (.inr (.inr (fun i => some (u0 (6 + i)))))))), ((u0 1), .inr (2, [.int 0, .ref e0, .int 0])), ((u0 2), .inr (2, [.int 0, .ref e0, .int 0])), ((u0 3), .inr (2, [.int 0, .ref e0, .int 0])), ((u0 6), .inr (4, [.ref (u0 10), .ref (u0 14), .int 0, .int 0, .int 0])), ((u0 10), .inl (k 0, 768, .inl (fun _ => 0))), ((u0 14), .inr (8, [.ref (u0 18), .int 1, .ref (u0 22)])), ((u0 18), .inl (k 1, 768, .inr (.inl (fun _ => 0)))), ((u0 7), .inr (4, [.ref (u0 11), .ref (u0 15), .int 0, .int 0, .int 0])), ((u0 11), .inl (k 0, 768, .inl (fun _ => 0))), ((u0 15), .inr (8, [.ref (u0 19), .int 1, .ref (u0 23)])), ((u0 19), .inl (k 1, 768, .inr (.inl (fun _ => 0)))), ((u0 8), .inr (4, [.ref (u0 12), .ref (u0 16), .int 0, .int 0, .int 0])), ((u0 12), .inl (k 0, 768, .inl (fun _ => 0))), ((u0 16), .inr (8, [.ref (u0 20), .int 1, .ref (u0 24)])), ((u0 20), .inl (k 1, 768, .inr (.inl (fun _ => 0)))), ((u0 9), .inr (4, [.ref (u0 13), .ref (u0 17), .int 0, .int 0, .int 0])), ((u0 13), .inl (k 0, 768, .inl (fun _ => 0))), ((u0 17), .inr (8, [.ref (u0 21), .int 1, .ref (u0 25)])), ((u0 21), .inl (k 1, 768, .inr (.inl (fun _ => 0)))), (o, .inl (k 1, 1, .inr (.inl (fun _ => 0))))]) hD hS hA [0, 1, 2, 3, 4, 5, 6, 7, 8, 9, 10, 11, 12, 13, 14, 15, 16, 17, 18, 19, 20, 29] rfl
  refine va_calli (vx_runSW (As := [.ref to, .int (xs 1), .int (((xs 2).toUInt32 % 65536).toInt32), .int (xs 3), .int (xs 4), .ref o]) (rest := []) ⟨hx, hb, hml, hown, hts⟩ (k_L_filter l hst D k e0 H.size to o u0 (fun _ => 0) (xs 1) (((xs 2).toUInt32 % 65536).toInt32) (xs 3) (xs 4)) (vx_cwSW 6 hts gL_law_L_filter rfl rfl rfl (by decide +kernel) ⟨Nat.le_of_ble_eq_true rfl, Nat.le_of_ble_eq_true rfl⟩) ⟨lPc_fb, lPc_go hC hNc hHf hS hPc hDc hFc⟩ rfl rfl hl.1 rfl (lv_room (Nat.le_of_ble_eq_true rfl)) dL_law_1138 ⟨Nat.le_of_ble_eq_true rfl, Nat.le_of_ble_eq_true rfl⟩) hS (fun q9 _ h9 => hFc q9 h9) hFc (fun rL uL t H locs ht hvm hwL hB hz1 hk1 hS => ?_)
  obtain ⟨hP1, hD1⟩ := hB
  rw [ht] at hP1
  obtain ⟨hP, hD⟩ := va_join (wr := [(mo, .inr (13, [.int 0, .ref (w0 0), .int 0, .ref (w0 1), .int 0, .int 0, .ref (w0 2), .int 0, .ref (w0 3), .ref (w0 4), .int 0])), ((w0 0), .inl (k 5, 3, .inr (.inr (.inr (.inr (fun i => some (w0 (5 + i)))))))), ((w0 5), .inl (k 0, 768, .inl (fun _ => 0))), ((w0 6), .inl (k 0, 768, .inl (fun _ => 0))), ((w0 7), .inl (k 0, 768, .inl (fun _ => 0))), ((w0 1), .inl (k 6, 8, .inr (.inr (.inr (.inr (fun _ => none)))))), ((w0 2), .inl (k 6, 20, .inr (.inr (.inr (.inr (fun _ => none)))))), ((w0 4), .inl (k 6, 6, .inr (.inr (.inr (.inr (fun _ => none)))))), (od, .inl (k 8, 1, .inr (.inr (.inr (.inl (fun _ => 0))))))]) (w1 := [(o, .inl (k 1, 1, .inr (.inl uL)))]) hP hD [0, 1, 2, 3, 4, 5, 6, 7, 8, 9, 10, 11, 12, 13, 14, 15, 16, 17, 18, 19, 20, 29] [21, 22, 23, 24, 25, 26, 27, 28, 30] rfl rfl (by decide) (by decide) hk1 hFc hP1 hD1
  have hP : va_P D vwCl [(mo, .inr (13, [.int 0, .ref (w0 0), .int 0, .ref (w0 1), .int 0, .int 0, .ref (w0 2), .int 0, .ref (w0 3), .ref (w0 4), .int 0])), ((w0 0), .inl (k 5, 3, .inr (.inr (.inr (.inr (fun i => some (w0 (5 + i)))))))), ((w0 5), .inl (k 0, 768, .inl (fun _ => 0))), ((w0 6), .inl (k 0, 768, .inl (fun _ => 0))), ((w0 7), .inl (k 0, 768, .inl (fun _ => 0))), ((w0 1), .inl (k 6, 8, .inr (.inr (.inr (.inr (fun _ => none)))))), ((w0 2), .inl (k 6, 20, .inr (.inr (.inr (.inr (fun _ => none)))))), ((w0 4), .inl (k 6, 6, .inr (.inr (.inr (.inr (fun _ => none)))))), (od, .inl (k 8, 1, .inr (.inr (.inr (.inl (fun _ => 0)))))), (o, .inl (k 1, 1, .inr (.inl uL)))] H := hP
  have hD : va_D A [(mo, .inr (13, [.int 0, .ref (w0 0), .int 0, .ref (w0 1), .int 0, .int 0, .ref (w0 2), .int 0, .ref (w0 3), .ref (w0 4), .int 0])), ((w0 0), .inl (k 5, 3, .inr (.inr (.inr (.inr (fun i => some (w0 (5 + i)))))))), ((w0 5), .inl (k 0, 768, .inl (fun _ => 0))), ((w0 6), .inl (k 0, 768, .inl (fun _ => 0))), ((w0 7), .inl (k 0, 768, .inl (fun _ => 0))), ((w0 1), .inl (k 6, 8, .inr (.inr (.inr (.inr (fun _ => none)))))), ((w0 2), .inl (k 6, 20, .inr (.inr (.inr (.inr (fun _ => none)))))), ((w0 4), .inl (k 6, 6, .inr (.inr (.inr (.inr (fun _ => none)))))), (od, .inl (k 8, 1, .inr (.inr (.inr (.inl (fun _ => 0)))))), (o, .inl (k 1, 1, .inr (.inl uL)))] := hD
  subst hwL
  refine lv_istore (lv' := [(6, .int 1), (0, .ref b), (1, .ref to), (2, .ref mo), (3, .ref o), (4, .ref od), (5, .int 0)]) hx hb dL_law_1141 hl (by decide) rfl (fun ls hl => ?_)
  refine lv_aload_n hx hb dL_law_1143 rfl (lv_at hl 3 rfl) ?_
  refine lv_aload_n hx hb dL_law_1144 rfl (lv_at hl 1 rfl) ?_
  refine lv_iload hx hb dL_law_1145 (lv_at hl 6 rfl) ?_
  refine lv_iconst (v := 1) hx hb dL_law_1147 (by decide) ?_
  refine lv_iadd hx hb dL_law_1148 ?_
  refine w_top (y := 1) (by decide) ?_
  refine va_sld hx hb hX hbl hbA hS (vp_in_nI (n := 1) (N := 6) (by decide) (by decide)) dL_law_1149 ?_
  refine w_top (y := xs 1) rfl ?_
  refine lv_aload_n hx hb dL_law_1150 rfl (lv_at hl 1 rfl) ?_
  refine lv_iload hx hb dL_law_1151 (lv_at hl 6 rfl) ?_
  refine lv_iconst (v := 2) hx hb dL_law_1153 (by decide) ?_
  refine lv_iadd hx hb dL_law_1154 ?_
  refine w_top (y := 2) (by decide) ?_
  refine va_sld hx hb hX hbl hbA hS (vp_in_nI (n := 2) (N := 6) (by decide) (by decide)) dL_law_1155 ?_
  refine w_top (y := xs 2) rfl ?_
  refine lv_i2c (v := ((xs 2).toUInt32 % 65536).toInt32) hx hb dL_law_1156 rfl ?_
  refine lv_aload_n hx hb dL_law_1157 rfl (lv_at hl 1 rfl) ?_
  refine lv_iload hx hb dL_law_1158 (lv_at hl 6 rfl) ?_
  refine lv_iconst (v := 3) hx hb dL_law_1160 (by decide) ?_
  refine lv_iadd hx hb dL_law_1161 ?_
  refine w_top (y := 3) (by decide) ?_
  refine va_sld hx hb hX hbl hbA hS (vp_in_nI (n := 3) (N := 6) (by decide) (by decide)) dL_law_1162 ?_
  refine w_top (y := xs 3) rfl ?_
  refine lv_aload_n hx hb dL_law_1163 rfl (lv_at hl 1 rfl) ?_
  refine lv_iload hx hb dL_law_1164 (lv_at hl 6 rfl) ?_
  refine lv_iconst (v := 4) hx hb dL_law_1166 (by decide) ?_
  refine lv_iadd hx hb dL_law_1167 ?_
  refine w_top (y := 4) (by decide) ?_
  refine va_sld hx hb hX hbl hbA hS (vp_in_nI (n := 4) (N := 6) (by decide) (by decide)) dL_law_1168 ?_
  refine w_top (y := xs 4) rfl ?_
  have hPc := hP.sub (ws' := [(mo, .inr (13, [.int 0, .ref (w0 0), .int 0, .ref (w0 1), .int 0, .int 0, .ref (w0 2), .int 0, .ref (w0 3), .ref (w0 4), .int 0])), ((w0 0), .inl (k 5, 3, .inr (.inr (.inr (.inr (fun i => some (w0 (5 + i)))))))), ((w0 5), .inl (k 0, 768, .inl (fun _ => 0))), ((w0 6), .inl (k 0, 768, .inl (fun _ => 0))), ((w0 7), .inl (k 0, 768, .inl (fun _ => 0))), ((w0 1), .inl (k 6, 8, .inr (.inr (.inr (.inr (fun _ => none)))))), ((w0 2), .inl (k 6, 20, .inr (.inr (.inr (.inr (fun _ => none)))))), ((w0 4), .inl (k 6, 6, .inr (.inr (.inr (.inr (fun _ => none))))))]) [0, 1, 2, 3, 4, 5, 6, 7] rfl
  have hDc := hD.sub (ws' := [(mo, .inr (13, [.int 0, .ref (w0 0), .int 0, .ref (w0 1), .int 0, .int 0, .ref (w0 2), .int 0, .ref (w0 3), .ref (w0 4), .int 0])), ((w0 0), .inl (k 5, 3, .inr (.inr (.inr (.inr (fun i => some (w0 (5 + i)))))))), ((w0 5), .inl (k 0, 768, .inl (fun _ => 0))), ((w0 6), .inl (k 0, 768, .inl (fun _ => 0))), ((w0 7), .inl (k 0, 768, .inl (fun _ => 0))), ((w0 1), .inl (k 6, 8, .inr (.inr (.inr (.inr (fun _ => none)))))), ((w0 2), .inl (k 6, 20, .inr (.inr (.inr (.inr (fun _ => none)))))), ((w0 4), .inl (k 6, 6, .inr (.inr (.inr (.inr (fun _ => none))))))]) [0, 1, 2, 3, 4, 5, 6, 7] (by decide) rfl
  have hFc := va_free (wc := [(mo, .inr (13, [.int 0, .ref (w0 0), .int 0, .ref (w0 1), .int 0, .int 0, .ref (w0 2), .int 0, .ref (w0 3), .ref (w0 4), .int 0])), ((w0 0), .inl (k 5, 3, .inr (.inr (.inr (.inr (fun i => some (w0 (5 + i)))))))), ((w0 5), .inl (k 0, 768, .inl (fun _ => 0))), ((w0 6), .inl (k 0, 768, .inl (fun _ => 0))), ((w0 7), .inl (k 0, 768, .inl (fun _ => 0))), ((w0 1), .inl (k 6, 8, .inr (.inr (.inr (.inr (fun _ => none)))))), ((w0 2), .inl (k 6, 20, .inr (.inr (.inr (.inr (fun _ => none)))))), ((w0 4), .inl (k 6, 6, .inr (.inr (.inr (.inr (fun _ => none))))))]) hD hS hA [0, 1, 2, 3, 4, 5, 6, 7] rfl
  refine va_calli (va_runV (As := [.int (xs 1), .int (((xs 2).toUInt32 % 65536).toInt32), .int (xs 3), .int (xs 4)]) (rest := []) ⟨hx, hb, hml, hown, hts⟩ (k_X12_filter l D k e0 H.size mo w0 (xs 1) (((xs 2).toUInt32 % 65536).toInt32) (xs 3) (xs 4)) (cwV 4 hts gL_law_X12_filter rfl rfl rfl (by decide +kernel) ⟨Nat.le_of_ble_eq_true rfl, Nat.le_of_ble_eq_true rfl⟩) ⟨mPc_fb, va_recv hC.1 hPc (ci := 13) (q0 := 0) rfl rfl, mPc_go hC hHf hS hPc hDc hFc⟩ rfl rfl hl.1 rfl (lv_room (Nat.le_of_ble_eq_true rfl)) dL_law_1169 ⟨Nat.le_of_ble_eq_true rfl, Nat.le_of_ble_eq_true rfl⟩) hS (fun q9 _ h9 => hFc q9 h9) hFc (fun r2 u1 t H locs ht hvm hw_r2 hB hz1 hk1 hS => ?_)
  obtain ⟨hP1, hD1⟩ := hB
  rw [ht] at hP1
  obtain ⟨hP, hD⟩ := va_join (wr := [(od, .inl (k 8, 1, .inr (.inr (.inr (.inl (fun _ => 0)))))), (o, .inl (k 1, 1, .inr (.inl uL)))]) (w1 := [(mo, .inr (13, u1))]) hP hD [0, 1, 2, 3, 4, 5, 6, 7] [8, 9] rfl rfl (by decide) (by decide) hk1 hFc hP1 hD1
  have hP : va_P D vwCl [(od, .inl (k 8, 1, .inr (.inr (.inr (.inl (fun _ => 0)))))), (o, .inl (k 1, 1, .inr (.inl uL))), (mo, .inr (13, u1))] H := hP
  have hD : va_D A [(od, .inl (k 8, 1, .inr (.inr (.inr (.inl (fun _ => 0)))))), (o, .inl (k 1, 1, .inr (.inl uL))), (mo, .inr (13, u1))] := hD
  have hth := hw_r2
  refine lv_istore (lv' := [(7, .int r2), (6, .int 1), (0, .ref b), (1, .ref to), (2, .ref mo), (3, .ref o), (4, .ref od), (5, .int 0)]) hx hb dL_law_1172 hl (by decide) rfl (fun ls hl => ?_)
  refine lv_aload_n hx hb dL_law_1174 rfl (lv_at hl 4 rfl) ?_
  refine pz_i (va_runV (As := []) (rest := []) ⟨hx, hb, hml, hown, hts⟩ (k_X12_thrown l D k H mo u1 1 (hP.sub [2] rfl) hth) (cwV 0 hts gL_law_X12_thrown rfl rfl rfl (by decide +kernel) ⟨Nat.le_of_ble_eq_true rfl, Nat.le_of_ble_eq_true rfl⟩) ⟨pPc_fb, va_recv hC.1 hP (ci := 13) (q0 := 2) rfl rfl, pPc_go hC⟩ rfl rfl hl.1 rfl (lv_room (Nat.le_of_ble_eq_true rfl)) dL_law_1175 ⟨Nat.le_of_ble_eq_true rfl, Nat.le_of_ble_eq_true rfl⟩) hS (fun r4 locs hw_r4 hS => ?_)
  subst hw_r4
  refine lv_iload hx hb dL_law_1178 (lv_at hl 1 rfl) ?_
  refine lv_icmp_eq (tgt := 1185) hx hb dL_law_1180 (by decide) (fun c_1180 => ?_) (fun c_1180 => absurd (by decide) c_1180)
  refine lv_iload hx hb dL_law_1185 (lv_at hl 1 rfl) ?_
  refine lv_if_ne (tgt := 1202) hx hb dL_law_1187 (by decide) (fun c_1187 => ?_) (fun c_1187 => absurd c_1187 (by decide))
  refine lv_goto (tgt := 2046) hx hb dL_law_1202 (by decide) ?_
  refine W.widen (k := 100000) (n := 1000000) (Nat.le_of_ble_eq_true rfl) (Nat.le_of_ble_eq_true rfl) ?_
  exact law_end ⟨hx, hb, hr, hml, hown, hts0, hX, hbl, hlocks, hgv⟩ hAs hS (lv_sub hl [2, 7] rfl)

set_option maxHeartbeats 4000000 in
set_option maxRecDepth 100000 in
theorem law_c13 {p : Program} {l : Launch} {e : Env} {s : State} {m : MethodId} {below : List Frame} {meth : Method} {c : Code} {b : Nat} {xs : Nat → Int32} (hst : l.stackTraces = false) (C0 : lw_At p s m meth c b 6 xs) {D : va_G} {k : Nat → ClassId} {e0 to mo o od : Nat} {u0 w0 : Nat → Nat} {A : Nat → Prop} (hA : ∀ q, s.heap.size ≤ q → A q) (hAs : ∀ q, A q → s.heap.size ≤ q) (hC : wCx D k s) (hNc : wNc s) (hHf : wHf e0 A s s.heap) {H : Heap} {locs : List Loc} {ls : Array Slot} (hP : va_P D vwCl (wL k to mo o od e0 u0 w0) H) (hD : va_D A (wL k to mo o od e0 u0 w0)) (hS : va_S A s.heap H locs) (hl : lv_has ls 9 [(0, .ref b), (1, .ref to), (2, .ref mo), (3, .ref o), (4, .ref od), (5, .int 0)]) : W p l e room_1 s m #[Value.ref b] below meth c H locs 100 20000 (lw_Z below #[Value.ref b] s) (F0 m 1205 ls []) := by
  obtain ⟨hx, hb, hr, hml, hown, hts0, hX, hbl, hlocks, hgv⟩ := C0
  have hts : ∀ w ∈ wsL_law, w.before #[Value.ref b] s = true := fun w h => hts0 w (wsL_law_in w h)
  have hbA : ¬ A b := fun h9 => absurd (hAs b h9) (Nat.not_le.mpr hbl)
  refine lv_aload_n hx hb dL_law_1205 rfl (lv_at hl 1 rfl) ?_
  refine lv_aload_n hx hb dL_law_1206 rfl (lv_at hl 0 rfl) ?_
  refine lv_iload hx hb dL_law_1207 (lv_at hl 5 rfl) ?_
  refine lv_iconst (v := 1) hx hb dL_law_1209 (by decide) ?_
  refine lv_iadd hx hb dL_law_1210 ?_
  refine w_top (y := 1) (by decide) ?_
  refine va_sld hx hb hX hbl hbA hS (vp_in_nI (n := 1) (N := 6) (by decide) (by decide)) dL_law_1211 ?_
  refine w_top (y := xs 1) rfl ?_
  refine lv_aload_n hx hb dL_law_1212 rfl (lv_at hl 3 rfl) ?_
  have hPc := hP.sub (ws' := [(to, .inr (12, [.ref (u0 0), .ref (u0 1), .ref (u0 2), .ref (u0 3), .ref (u0 4), .ref (u0 5), .int 0, .int 0, .int 0])), ((u0 0), .inl (k 3, 4, .inr (.inr (.inr (.inr (fun i => some (u0 (6 + i)))))))), ((u0 1), .inr (2, [.int 0, .ref e0, .int 0])), ((u0 2), .inr (2, [.int 0, .ref e0, .int 0])), ((u0 3), .inr (2, [.int 0, .ref e0, .int 0])), ((u0 6), .inr (4, [.ref (u0 10), .ref (u0 14), .int 0, .int 0, .int 0])), ((u0 10), .inl (k 0, 768, .inl (fun _ => 0))), ((u0 14), .inr (8, [.ref (u0 18), .int 1, .ref (u0 22)])), ((u0 18), .inl (k 1, 768, .inr (.inl (fun _ => 0)))), ((u0 7), .inr (4, [.ref (u0 11), .ref (u0 15), .int 0, .int 0, .int 0])), ((u0 11), .inl (k 0, 768, .inl (fun _ => 0))), ((u0 15), .inr (8, [.ref (u0 19), .int 1, .ref (u0 23)])), ((u0 19), .inl (k 1, 768, .inr (.inl (fun _ => 0)))), ((u0 8), .inr (4, [.ref (u0 12), .ref (u0 16), .int 0, .int 0, .int 0])), ((u0 12), .inl (k 0, 768, .inl (fun _ => 0))), ((u0 16), .inr (8, [.ref (u0 20), .int 1, .ref (u0 24)])), ((u0 20), .inl (k 1, 768, .inr (.inl (fun _ => 0)))), ((u0 9), .inr (4, [.ref (u0 13), .ref (u0 17), .int 0, .int 0, .int 0])), ((u0 13), .inl (k 0, 768, .inl (fun _ => 0))), ((u0 17), .inr (8, [.ref (u0 21), .int 1, .ref (u0 25)])), ((u0 21), .inl (k 1, 768, .inr (.inl (fun _ => 0)))), (o, .inl (k 1, 1, .inr (.inl (fun _ => 0))))]) [0, 1, 2, 3, 4, 5, 6, 7, 8, 9, 10, 11, 12, 13, 14, 15, 16, 17, 18, 19, 20, 29] rfl
  have hDc := hD.sub (ws' := [(to, .inr (12, [.ref (u0 0), .ref (u0 1), .ref (u0 2), .ref (u0 3), .ref (u0 4), .ref (u0 5), .int 0, .int 0, .int 0])), ((u0 0), .inl (k 3, 4, .inr (.inr (.inr (.inr (fun i => some (u0 (6 + i)))))))), ((u0 1), .inr (2, [.int 0, .ref e0, .int 0])), ((u0 2), .inr (2, [.int 0, .ref e0, .int 0])), ((u0 3), .inr (2, [.int 0, .ref e0, .int 0])), ((u0 6), .inr (4, [.ref (u0 10), .ref (u0 14), .int 0, .int 0, .int 0])), ((u0 10), .inl (k 0, 768, .inl (fun _ => 0))), ((u0 14), .inr (8, [.ref (u0 18), .int 1, .ref (u0 22)])), ((u0 18), .inl (k 1, 768, .inr (.inl (fun _ => 0)))), ((u0 7), .inr (4, [.ref (u0 11), .ref (u0 15), .int 0, .int 0, .int 0])), ((u0 11), .inl (k 0, 768, .inl (fun _ => 0))), ((u0 15), .inr (8, [.ref (u0 19), .int 1, .ref (u0 23)])), ((u0 19), .inl (k 1, 768, .inr (.inl (fun _ => 0)))), ((u0 8), .inr (4, [.ref (u0 12), .ref (u0 16), .int 0, .int 0, .int 0])), ((u0 12), .inl (k 0, 768, .inl (fun _ => 0))), ((u0 16), .inr (8, [.ref (u0 20), .int 1, .ref (u0 24)])), ((u0 20), .inl (k 1, 768, .inr (.inl (fun _ => 0)))), ((u0 9), .inr (4, [.ref (u0 13), .ref (u0 17), .int 0, .int 0, .int 0])), ((u0 13), .inl (k 0, 768, .inl (fun _ => 0))), ((u0 17), .inr (8, [.ref (u0 21), .int 1, .ref (u0 25)])), ((u0 21), .inl (k 1, 768, .inr (.inl (fun _ => 0)))), (o, .inl (k 1, 1, .inr (.inl (fun _ => 0))))]) [0, 1, 2, 3, 4, 5, 6, 7, 8, 9, 10, 11, 12, 13, 14, 15, 16, 17, 18, 19, 20, 29] (by decide) rfl
  have hFc := va_free (wc := [(to, .inr (12, [.ref (u0 0), .ref (u0 1), .ref (u0 2), .ref (u0 3), .ref (u0 4), .ref (u0 5), .int 0, .int 0, .int 0])), ((u0 0), .inl (k 3, 4, .inr (.inr (.inr (.inr (fun i => some (u0 (6 + i)))))))), ((u0 1), .inr (2, [.int 0, .ref e0, .int 0])), ((u0 2), .inr (2, [.int 0, .ref e0, .int 0])), ((u0 3), .inr (2, [.int 0, .ref e0, .int 0])), ((u0 6), .inr (4, [.ref (u0 10), .ref (u0 14), .int 0, .int 0, .int 0])), ((u0 10), .inl (k 0, 768, .inl (fun _ => 0))), ((u0 14), .inr (8, [.ref (u0 18), .int 1, .ref (u0 22)])), ((u0 18), .inl (k 1, 768, .inr (.inl (fun _ => 0)))), ((u0 7), .inr (4, [.ref (u0 11), .ref (u0 15), .int 0, .int 0, .int 0])), ((u0 11), .inl (k 0, 768, .inl (fun _ => 0))), ((u0 15), .inr (8, [.ref (u0 19), .int 1, .ref (u0 23)])), ((u0 19), .inl (k 1, 768, .inr (.inl (fun _ => 0)))), ((u0 8), .inr (4, [.ref (u0 12), .ref (u0 16), .int 0, .int 0, .int 0])), ((u0 12), .inl (k 0, 768, .inl (fun _ => 0))), ((u0 16), .inr (8, [.ref (u0 20), .int 1, .ref (u0 24)])), ((u0 20), .inl (k 1, 768, .inr (.inl (fun _ => 0)))), ((u0 9), .inr (4, [.ref (u0 13), .ref (u0 17), .int 0, .int 0, .int 0])), ((u0 13), .inl (k 0, 768, .inl (fun _ => 0))), ((u0 17), .inr (8, [.ref (u0 21), .int 1, .ref (u0 25)])), ((u0 21), .inl (k 1, 768, .inr (.inl (fun _ => 0)))), (o, .inl (k 1, 1, .inr (.inl (fun _ => 0))))]) hD hS hA [0, 1, 2, 3, 4, 5, 6, 7, 8, 9, 10, 11, 12, 13, 14, 15, 16, 17, 18, 19, 20, 29] rfl
  refine va_calli (vx_runSW (As := [.ref to, .int (xs 1), .ref o]) (rest := []) ⟨hx, hb, hml, hown, hts⟩ (k_L_single l hst D k e0 H.size to o u0 (fun _ => 0) (xs 1)) (vx_cwSW 3 hts gL_law_L_single rfl rfl rfl (by decide +kernel) ⟨Nat.le_of_ble_eq_true rfl, Nat.le_of_ble_eq_true rfl⟩) ⟨lPc_fb, lPc_go hC hNc hHf hS hPc hDc hFc⟩ rfl rfl hl.1 rfl (lv_room (Nat.le_of_ble_eq_true rfl)) dL_law_1213 ⟨Nat.le_of_ble_eq_true rfl, Nat.le_of_ble_eq_true rfl⟩) hS (fun q9 _ h9 => hFc q9 h9) hFc (fun rL uL t H locs ht hvm hwL hB hz1 hk1 hS => ?_)
  obtain ⟨hP1, hD1⟩ := hB
  rw [ht] at hP1
  obtain ⟨hP, hD⟩ := va_join (wr := [(mo, .inr (13, [.int 0, .ref (w0 0), .int 0, .ref (w0 1), .int 0, .int 0, .ref (w0 2), .int 0, .ref (w0 3), .ref (w0 4), .int 0])), ((w0 0), .inl (k 5, 3, .inr (.inr (.inr (.inr (fun i => some (w0 (5 + i)))))))), ((w0 5), .inl (k 0, 768, .inl (fun _ => 0))), ((w0 6), .inl (k 0, 768, .inl (fun _ => 0))), ((w0 7), .inl (k 0, 768, .inl (fun _ => 0))), ((w0 1), .inl (k 6, 8, .inr (.inr (.inr (.inr (fun _ => none)))))), ((w0 2), .inl (k 6, 20, .inr (.inr (.inr (.inr (fun _ => none)))))), ((w0 4), .inl (k 6, 6, .inr (.inr (.inr (.inr (fun _ => none)))))), (od, .inl (k 8, 1, .inr (.inr (.inr (.inl (fun _ => 0))))))]) (w1 := [(o, .inl (k 1, 1, .inr (.inl uL)))]) hP hD [0, 1, 2, 3, 4, 5, 6, 7, 8, 9, 10, 11, 12, 13, 14, 15, 16, 17, 18, 19, 20, 29] [21, 22, 23, 24, 25, 26, 27, 28, 30] rfl rfl (by decide) (by decide) hk1 hFc hP1 hD1
  have hP : va_P D vwCl [(mo, .inr (13, [.int 0, .ref (w0 0), .int 0, .ref (w0 1), .int 0, .int 0, .ref (w0 2), .int 0, .ref (w0 3), .ref (w0 4), .int 0])), ((w0 0), .inl (k 5, 3, .inr (.inr (.inr (.inr (fun i => some (w0 (5 + i)))))))), ((w0 5), .inl (k 0, 768, .inl (fun _ => 0))), ((w0 6), .inl (k 0, 768, .inl (fun _ => 0))), ((w0 7), .inl (k 0, 768, .inl (fun _ => 0))), ((w0 1), .inl (k 6, 8, .inr (.inr (.inr (.inr (fun _ => none)))))), ((w0 2), .inl (k 6, 20, .inr (.inr (.inr (.inr (fun _ => none)))))), ((w0 4), .inl (k 6, 6, .inr (.inr (.inr (.inr (fun _ => none)))))), (od, .inl (k 8, 1, .inr (.inr (.inr (.inl (fun _ => 0)))))), (o, .inl (k 1, 1, .inr (.inl uL)))] H := hP
  have hD : va_D A [(mo, .inr (13, [.int 0, .ref (w0 0), .int 0, .ref (w0 1), .int 0, .int 0, .ref (w0 2), .int 0, .ref (w0 3), .ref (w0 4), .int 0])), ((w0 0), .inl (k 5, 3, .inr (.inr (.inr (.inr (fun i => some (w0 (5 + i)))))))), ((w0 5), .inl (k 0, 768, .inl (fun _ => 0))), ((w0 6), .inl (k 0, 768, .inl (fun _ => 0))), ((w0 7), .inl (k 0, 768, .inl (fun _ => 0))), ((w0 1), .inl (k 6, 8, .inr (.inr (.inr (.inr (fun _ => none)))))), ((w0 2), .inl (k 6, 20, .inr (.inr (.inr (.inr (fun _ => none)))))), ((w0 4), .inl (k 6, 6, .inr (.inr (.inr (.inr (fun _ => none)))))), (od, .inl (k 8, 1, .inr (.inr (.inr (.inl (fun _ => 0)))))), (o, .inl (k 1, 1, .inr (.inl uL)))] := hD
  subst hwL
  refine lv_istore (lv' := [(6, .int 1), (0, .ref b), (1, .ref to), (2, .ref mo), (3, .ref o), (4, .ref od), (5, .int 0)]) hx hb dL_law_1216 hl (by decide) rfl (fun ls hl => ?_)
  refine lv_aload_n hx hb dL_law_1218 rfl (lv_at hl 3 rfl) ?_
  refine lv_aload_n hx hb dL_law_1219 rfl (lv_at hl 1 rfl) ?_
  refine lv_iload hx hb dL_law_1220 (lv_at hl 6 rfl) ?_
  refine lv_iconst (v := 1) hx hb dL_law_1222 (by decide) ?_
  refine lv_iadd hx hb dL_law_1223 ?_
  refine w_top (y := 1) (by decide) ?_
  refine va_sld hx hb hX hbl hbA hS (vp_in_nI (n := 1) (N := 6) (by decide) (by decide)) dL_law_1224 ?_
  refine w_top (y := xs 1) rfl ?_
  have hPc := hP.sub (ws' := [(mo, .inr (13, [.int 0, .ref (w0 0), .int 0, .ref (w0 1), .int 0, .int 0, .ref (w0 2), .int 0, .ref (w0 3), .ref (w0 4), .int 0])), ((w0 0), .inl (k 5, 3, .inr (.inr (.inr (.inr (fun i => some (w0 (5 + i)))))))), ((w0 5), .inl (k 0, 768, .inl (fun _ => 0))), ((w0 6), .inl (k 0, 768, .inl (fun _ => 0))), ((w0 7), .inl (k 0, 768, .inl (fun _ => 0))), ((w0 1), .inl (k 6, 8, .inr (.inr (.inr (.inr (fun _ => none)))))), ((w0 2), .inl (k 6, 20, .inr (.inr (.inr (.inr (fun _ => none)))))), ((w0 4), .inl (k 6, 6, .inr (.inr (.inr (.inr (fun _ => none))))))]) [0, 1, 2, 3, 4, 5, 6, 7] rfl
  have hDc := hD.sub (ws' := [(mo, .inr (13, [.int 0, .ref (w0 0), .int 0, .ref (w0 1), .int 0, .int 0, .ref (w0 2), .int 0, .ref (w0 3), .ref (w0 4), .int 0])), ((w0 0), .inl (k 5, 3, .inr (.inr (.inr (.inr (fun i => some (w0 (5 + i)))))))), ((w0 5), .inl (k 0, 768, .inl (fun _ => 0))), ((w0 6), .inl (k 0, 768, .inl (fun _ => 0))), ((w0 7), .inl (k 0, 768, .inl (fun _ => 0))), ((w0 1), .inl (k 6, 8, .inr (.inr (.inr (.inr (fun _ => none)))))), ((w0 2), .inl (k 6, 20, .inr (.inr (.inr (.inr (fun _ => none)))))), ((w0 4), .inl (k 6, 6, .inr (.inr (.inr (.inr (fun _ => none))))))]) [0, 1, 2, 3, 4, 5, 6, 7] (by decide) rfl
  have hFc := va_free (wc := [(mo, .inr (13, [.int 0, .ref (w0 0), .int 0, .ref (w0 1), .int 0, .int 0, .ref (w0 2), .int 0, .ref (w0 3), .ref (w0 4), .int 0])), ((w0 0), .inl (k 5, 3, .inr (.inr (.inr (.inr (fun i => some (w0 (5 + i)))))))), ((w0 5), .inl (k 0, 768, .inl (fun _ => 0))), ((w0 6), .inl (k 0, 768, .inl (fun _ => 0))), ((w0 7), .inl (k 0, 768, .inl (fun _ => 0))), ((w0 1), .inl (k 6, 8, .inr (.inr (.inr (.inr (fun _ => none)))))), ((w0 2), .inl (k 6, 20, .inr (.inr (.inr (.inr (fun _ => none)))))), ((w0 4), .inl (k 6, 6, .inr (.inr (.inr (.inr (fun _ => none))))))]) hD hS hA [0, 1, 2, 3, 4, 5, 6, 7] rfl
  refine va_calli (va_runV (As := [.int (xs 1)]) (rest := []) ⟨hx, hb, hml, hown, hts⟩ (k_X12_single_ l D k e0 H.size mo w0 (xs 1)) (cwV 1 hts gL_law_X12_single_ rfl rfl rfl (by decide +kernel) ⟨Nat.le_of_ble_eq_true rfl, Nat.le_of_ble_eq_true rfl⟩) ⟨mPc_fb, va_recv hC.1 hPc (ci := 13) (q0 := 0) rfl rfl, mPc_go hC hHf hS hPc hDc hFc⟩ rfl rfl hl.1 rfl (lv_room (Nat.le_of_ble_eq_true rfl)) dL_law_1225 ⟨Nat.le_of_ble_eq_true rfl, Nat.le_of_ble_eq_true rfl⟩) hS (fun q9 _ h9 => hFc q9 h9) hFc (fun r2 u1 t H locs ht hvm hw_r2 hB hz1 hk1 hS => ?_)
  obtain ⟨hP1, hD1⟩ := hB
  rw [ht] at hP1
  obtain ⟨hP, hD⟩ := va_join (wr := [(od, .inl (k 8, 1, .inr (.inr (.inr (.inl (fun _ => 0)))))), (o, .inl (k 1, 1, .inr (.inl uL)))]) (w1 := [(mo, .inr (13, u1))]) hP hD [0, 1, 2, 3, 4, 5, 6, 7] [8, 9] rfl rfl (by decide) (by decide) hk1 hFc hP1 hD1
  have hP : va_P D vwCl [(od, .inl (k 8, 1, .inr (.inr (.inr (.inl (fun _ => 0)))))), (o, .inl (k 1, 1, .inr (.inl uL))), (mo, .inr (13, u1))] H := hP
  have hD : va_D A [(od, .inl (k 8, 1, .inr (.inr (.inr (.inl (fun _ => 0)))))), (o, .inl (k 1, 1, .inr (.inl uL))), (mo, .inr (13, u1))] := hD
  have hth := hw_r2
  refine lv_istore (lv' := [(7, .int r2), (6, .int 1), (0, .ref b), (1, .ref to), (2, .ref mo), (3, .ref o), (4, .ref od), (5, .int 0)]) hx hb dL_law_1228 hl (by decide) rfl (fun ls hl => ?_)
  refine lv_aload_n hx hb dL_law_1230 rfl (lv_at hl 4 rfl) ?_
  refine pz_i (va_runV (As := []) (rest := []) ⟨hx, hb, hml, hown, hts⟩ (k_X12_thrown l D k H mo u1 1 (hP.sub [2] rfl) hth) (cwV 0 hts gL_law_X12_thrown rfl rfl rfl (by decide +kernel) ⟨Nat.le_of_ble_eq_true rfl, Nat.le_of_ble_eq_true rfl⟩) ⟨pPc_fb, va_recv hC.1 hP (ci := 13) (q0 := 2) rfl rfl, pPc_go hC⟩ rfl rfl hl.1 rfl (lv_room (Nat.le_of_ble_eq_true rfl)) dL_law_1231 ⟨Nat.le_of_ble_eq_true rfl, Nat.le_of_ble_eq_true rfl⟩) hS (fun r4 locs hw_r4 hS => ?_)
  subst hw_r4
  refine lv_iload hx hb dL_law_1234 (lv_at hl 1 rfl) ?_
  refine lv_icmp_eq (tgt := 1241) hx hb dL_law_1236 (by decide) (fun c_1236 => ?_) (fun c_1236 => absurd (by decide) c_1236)
  refine lv_iload hx hb dL_law_1241 (lv_at hl 1 rfl) ?_
  refine lv_if_ne (tgt := 1258) hx hb dL_law_1243 (by decide) (fun c_1243 => ?_) (fun c_1243 => absurd c_1243 (by decide))
  refine lv_goto (tgt := 2046) hx hb dL_law_1258 (by decide) ?_
  refine W.widen (k := 100000) (n := 1000000) (Nat.le_of_ble_eq_true rfl) (Nat.le_of_ble_eq_true rfl) ?_
  exact law_end ⟨hx, hb, hr, hml, hown, hts0, hX, hbl, hlocks, hgv⟩ hAs hS (lv_sub hl [2, 7] rfl)

/-! Calls of methods that read and may throw; loops; numbers. -/
theorem w_xF {A : Nat → Prop} {s t : State} {H : Heap} {locs : List Loc} (hS : va_S A s.heap H locs) (h1 : H.size ≤ t.heap.size) (h2 : ∀ q : Nat, q < H.size → t.heap[q]? = H[q]?) : va_F A s t := ⟨Nat.le_trans hS.1 h1, fun q hq hn => (h2 q (Nat.lt_of_lt_of_le hq hS.1)).trans (hS.2.1 q hq hn)⟩
section BASEB
variable {p : Program} {l : Launch} {e : Env} {R : Room} {s : State} {m : MethodId} {args : Array Value} {below : List Frame} {meth : Method} {c : Code} {H : Heap} {locs : List Loc} {cells slots : Nat} {Q : State → Prop}
variable {cc : ByteArray} {pc : Nat} {ls : Array Slot} {rest st0 : List Value} {D : va_G} {A A0 : Nat → Prop} {k : Nat → ClassId} {ws : va_W} {H0 : Heap} {a : Array Value} {As : List Value} {e0 : Nat} {mc ms MC MS : Nat}
variable {Qc : Array Value → State → Outcome → State → Prop} {XC : String → State → State → Prop} {free : Addr → Prop}
theorem w_topl {x y : Int64} (he : x = y) (kk : W p l e R s m args below meth c H locs cells slots Q (F0 m pc ls (.long y :: rest))) : W p l e R s m args below meth c H locs cells slots Q (F0 m pc ls (.long x :: rest)) := by
  subst he
  exact kk
theorem w_topr {x y : Value} (he : x = y) (kk : W p l e R s m args below meth c H locs cells slots Q (F0 m pc ls (y :: rest))) : W p l e R s m args below meth c H locs cells slots Q (F0 m pc ls (x :: rest)) := by
  subst he
  exact kk
/-- a call that returns and changes nothing, or throws on -/
theorem pt_i {post : Int32 → Prop} {px : Prop} {EX : String} (hr : vx_Run p l e R s m args below meth c H locs cells slots mc ms (F0 m pc ls st0) rest (va_Qi (fun r (_ : Unit) => post r) (fun _ t => t.heap = H) (fun _ => False) a) (vx_X (fun (_ : Unit) => px) (fun E _ _ => E = EX) (fun q => H.size ≤ q)) (fun q => H.size ≤ q)) (hS : va_S A s.heap H locs) (hA : ∀ q, s.heap.size ≤ q → A q) (hout : ∀ x ∈ c.exceptionTable.toList, False) (hlocks : meth.locks = false) (hXC : px → ∀ t : State, va_F A s t → XC EX s t) (h1 : cells + mc ≤ MC) (h2 : slots + ms ≤ MS)
    (kk : ∀ (r : Int32) (locs1 : List Loc), post r → va_S A s.heap H locs1 → W p l e R s m args below meth c H locs1 (cells + mc) (slots + ms) (vx_MQ below Qc XC args s MC MS A) (F0 m (pc + 3) ls (.int r :: rest))) : W p l e R s m args below meth c H locs cells slots (vx_MQ below Qc XC args s MC MS A) (F0 m pc ls st0) :=
  vx_calli hr hS (fun _ _ h => h.elim) (fun q h => hA q (Nat.le_trans hS.1 h)) (fun q _ h => hA q (Nat.le_trans hS.1 h))
    (fun E ce q9 u t H1 locs1 ht hvm hpx hBX hz hk hS1 hce hcv hcl => by
      subst hBX
      exact vx_out (fun x hx => (hout x hx).elim) hlocks hce hcv hcl (fun t9 ht9 hal => hXC hpx t9 (hS1.F ht9)) hS1.2.2 h1 h2)
    (fun r u t H1 locs1 ht _ hw hB _ _ hS1 => by
      have e9 : H1 = H := ht.symm.trans hB
      subst e9
      exact kk r locs1 hw hS1)
/-- a loop that leaves the heap -/
theorem w_loop {N : Nat} (I : Nat → List Loc → Array Slot → Prop) {st : List Value} (step : ∀ (i : Nat) (locs : List Loc) (ls : Array Slot), i ≤ N → I i locs ls → (∀ (locs1 : List Loc) (ls1 : Array Slot), i < N → I (i + 1) locs1 ls1 → W p l e R s m args below meth c H locs1 cells slots Q (F0 m pc ls1 st)) → W p l e R s m args below meth c H locs cells slots Q (F0 m pc ls st)) : ∀ (i : Nat) (locs : List Loc) (ls : Array Slot), i ≤ N → I i locs ls → W p l e R s m args below meth c H locs cells slots Q (F0 m pc ls st) := by
  have key : ∀ (n i : Nat) (locs : List Loc) (ls : Array Slot), N ≤ i + n → i ≤ N → I i locs ls → W p l e R s m args below meth c H locs cells slots Q (F0 m pc ls st) := by
    intro n
    induction n with
    | zero => exact fun i locs ls h1 h2 h3 => step i locs ls h2 h3 (fun _ _ h => absurd h (by omega))
    | succ n ih => exact fun i locs ls h1 h2 h3 => step i locs ls h2 h3 (fun locs1 ls1 h h4 => ih (i + 1) locs1 ls1 (by omega) (by omega) h4)
  exact fun i locs ls h2 h3 => key N i locs ls (by omega) h2 h3
/-- a loop that writes -/
theorem w_loopH {N : Nat} (I : Nat → Heap → List Loc → Array Slot → Prop) {st : List Value} (step : ∀ (i : Nat) (H : Heap) (locs : List Loc) (ls : Array Slot), i ≤ N → I i H locs ls → (∀ (H1 : Heap) (locs1 : List Loc) (ls1 : Array Slot), i < N → I (i + 1) H1 locs1 ls1 → W p l e R s m args below meth c H1 locs1 cells slots Q (F0 m pc ls1 st)) → W p l e R s m args below meth c H locs cells slots Q (F0 m pc ls st)) : ∀ (i : Nat) (H : Heap) (locs : List Loc) (ls : Array Slot), i ≤ N → I i H locs ls → W p l e R s m args below meth c H locs cells slots Q (F0 m pc ls st) := by
  have key : ∀ (n i : Nat) (H : Heap) (locs : List Loc) (ls : Array Slot), N ≤ i + n → i ≤ N → I i H locs ls → W p l e R s m args below meth c H locs cells slots Q (F0 m pc ls st) := by
    intro n
    induction n with
    | zero => exact fun i H locs ls h1 h2 h3 => step i H locs ls h2 h3 (fun _ _ _ h => absurd h (by omega))
    | succ n ih => exact fun i H locs ls h1 h2 h3 => step i H locs ls h2 h3 (fun H1 locs1 ls1 h h4 => ih (i + 1) H1 locs1 ls1 (by omega) (by omega) h4)
  exact fun i H locs ls h2 h3 => key N i H locs ls (by omega) h2 h3
end BASEB
theorem i32_s20 (x : Int32) : ((x - 20).toInt = x.toInt - 20 ∧ -2147483648 ≤ x.toInt - 20) ∨ ((x - 20).toInt = x.toInt - 20 + 4294967296 ∧ x.toInt - 20 < -2147483648) := by
  have h1 := Int32.toInt_sub x 20
  have h2 := x.toInt_lt
  have h3 := x.le_toInt
  have h4 : (20 : Int32).toInt = 20 := by decide
  rw [h4] at h1
  have e9 : (x.toInt - 20).bmod (2 ^ 32) = if (x.toInt - 20) % 4294967296 < 2147483648 then (x.toInt - 20) % 4294967296 else (x.toInt - 20) % 4294967296 - 4294967296 := rfl
  rw [e9] at h1
  split at h1 <;> omega
theorem i32_sub20 (x : Int32) (h : 0 ≤ (x - 20).toInt ∧ (x - 20).toInt < 3) : 20 ≤ x.toInt ∧ x.toInt < 23 := by
  have h1 := i32_s20 x
  have h2 := x.toInt_lt
  have h3 := x.le_toInt
  omega
theorem i32_add20 (x : Int32) (h : 20 ≤ x.toInt ∧ x.toInt < 23) : 0 ≤ (x - 20).toInt ∧ (x - 20).toInt < 3 := by
  have h1 := i32_s20 x
  omega
/-- the number of a triple that is one -/
theorem i32_cell {x y z : Int32} (h1 : 0 ≤ x.toInt ∧ x.toInt < 8) (h2 : 0 ≤ y.toInt ∧ y.toInt < 8) (h3 : 0 ≤ z.toInt ∧ z.toInt < 12) : ∃ j : Nat, j < 768 ∧ (x * 8 + y) * 12 + z = nI j := by
  obtain ⟨a, ha, rfl⟩ := nI_bd (n := 8) h1.1 h1.2 (by decide)
  obtain ⟨b, hb, rfl⟩ := nI_bd (n := 8) h2.1 h2.2 (by decide)
  obtain ⟨d, hd, rfl⟩ := nI_bd (n := 12) h3.1 h3.2 (by decide)
  refine ⟨(a * 8 + b) * 12 + d, by omega, ?_⟩
  have e8 : (8 : Int32) = nI 8 := by decide
  have e12 : (12 : Int32) = nI 12 := by decide
  rw [e8, e12, pk_mul, nI_add, pk_mul, nI_add]
theorem w_nilP {D : va_G} {H : Heap} : va_P D vwCl [] H := fun k q h => by simp at h
theorem w_nilD {A : Nat → Prop} : va_D A [] := ⟨fun i j p q h => by simp at h, fun k q h => by simp at h⟩
theorem arrV_on {c : ClassId} {n : Nat} {f g : Nat → Value} (h : ∀ i : Nat, i < n → f i = g i) : arrV c n f = arrV c n g := by
  unfold arrV
  congr 2
  funext j
  exact h j.val j.isLt
/-- what an array of references holds, said otherwise -/
theorem w_refs {D : va_G} {ws : va_W} {H : Heap} {ad n : Nat} {c : ClassId} {f g : Nat → Option Nat} (hP : va_P D vwCl ws H) (p : Nat) (hp : ws[p]? = some (ad, .inl (c, n, .inr (.inr (.inr (.inr f)))))) (h : ∀ i : Nat, i < n → f i = g i) : va_P D vwCl (ws.set p (ad, .inl (c, n, .inr (.inr (.inr (.inr g)))))) H := by
  have hl := (List.getElem?_eq_some_iff.mp hp).1
  intro j q hj
  by_cases e9 : j = p
  · subst e9
    rw [List.getElem?_set_self hl] at hj
    cases hj
    have h1 := hP j _ hp
    show H[ad]? = some (vp_cell c _)
    rw [show H[ad]? = some (vp_cell c (n, .inr (.inr (.inr (.inr f))))) from h1, vp_cell_q, vp_cell_q]
    exact congrArg some (arrV_on (fun i hi => by rw [h i hi]))
  · rw [List.getElem?_set_ne (Ne.symm e9)] at hj
    exact hP j q hj
theorem nI_bw {j n : Nat} (h : j < n) (hn : n < 2 ^ 31) : 0 ≤ (nI j).toInt ∧ (nI j).toInt < (nI n).toInt := by
  rw [nI_toInt (Nat.lt_trans h hn), nI_toInt hn]
  omega
theorem upL0 (j : Nat) : vp_updL (fun _ => 0) j 0 = (fun _ => 0) := by
  funext q
  unfold vp_updL
  split <;> rfl
theorem upI0 (j : Nat) : upd (fun _ => 0) j 0 = (fun _ => 0) := by
  funext q
  unfold upd
  split <;> rfl

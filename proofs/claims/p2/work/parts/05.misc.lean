theorem d_Arrays_fill_0 : decode b_Arrays_fill 0 = .ok (.iconst 0, 1) := by decide +kernel
theorem d_Arrays_fill_1 : decode b_Arrays_fill 1 = .ok (.istore_n 2, 1) := by decide +kernel
theorem d_Arrays_fill_2 : decode b_Arrays_fill 2 = .ok (.aload_n 0, 1) := by decide +kernel
theorem d_Arrays_fill_3 : decode b_Arrays_fill 3 = .ok (.arraylength, 1) := by decide +kernel
theorem d_Arrays_fill_4 : decode b_Arrays_fill 4 = .ok (.istore_n 3, 1) := by decide +kernel
theorem d_Arrays_fill_5 : decode b_Arrays_fill 5 = .ok (.iload_n 2, 1) := by decide +kernel
theorem d_Arrays_fill_6 : decode b_Arrays_fill 6 = .ok (.iload_n 3, 1) := by decide +kernel
theorem d_Arrays_fill_7 : decode b_Arrays_fill 7 = .ok (.if_icmp .ge 13, 3) := by decide +kernel
theorem d_Arrays_fill_10 : decode b_Arrays_fill 10 = .ok (.aload_n 0, 1) := by decide +kernel
theorem d_Arrays_fill_11 : decode b_Arrays_fill 11 = .ok (.iload_n 2, 1) := by decide +kernel
theorem d_Arrays_fill_12 : decode b_Arrays_fill 12 = .ok (.iload_n 1, 1) := by decide +kernel
theorem d_Arrays_fill_13 : decode b_Arrays_fill 13 = .ok (.iastore, 1) := by decide +kernel
theorem d_Arrays_fill_14 : decode b_Arrays_fill 14 = .ok (.iinc 2 1, 3) := by decide +kernel
theorem d_Arrays_fill_17 : decode b_Arrays_fill 17 = .ok (.goto (-12), 3) := by decide +kernel
theorem d_Arrays_fill_20 : decode b_Arrays_fill 20 = .ok (.return_, 1) := by decide +kernel
-- small numbers
theorem x_nle0 {x : Int32} (h : ¬ x < 1) : ¬ x ≤ 0 := by
  intro h2
  apply h
  rw [Int32.lt_iff_toInt_lt]
  rw [Int32.le_iff_toInt_le] at h2
  have e1 : (1 : Int32).toInt = 1 := by decide
  have e0 : (0 : Int32).toInt = 0 := by decide
  omega
theorem x_ge0 {x : Int32} (h : ¬ x < 0) : 0 ≤ x := by
  rw [Int32.lt_iff_toInt_lt] at h
  rw [Int32.le_iff_toInt_le]
  have e0 : (0 : Int32).toInt = 0 := by decide
  omega
theorem x_w1 {x : Int32} (hv : ¬ x = 0) (h : ¬ x < 0) : ¬ x ≤ 0 := by
  intro h2
  apply hv
  rw [Int32.lt_iff_toInt_lt] at h
  rw [Int32.le_iff_toInt_le] at h2
  have e0 : (0 : Int32).toInt = 0 := by decide
  apply Int32.toInt_inj.mp
  omega
theorem x_w2 {x k : Int32} (h1 : ¬ x < 0) (h2 : ¬ 8192 ≤ x) (hk0 : 0 ≤ k.toInt) (hk : k.toInt < 8) : (0 : Int32) ≤ 8 * x + k := by
  rcases pk_ix x (n := 8192) (by decide) with h | h | ⟨j, hj, rfl⟩
  · exact absurd h h1
  · exact absurd h h2
  · obtain ⟨i, hi, rfl⟩ : ∃ i : Nat, i < 8 ∧ k = nI i := by
      rcases pk_ix k (n := 8) (by decide) with h | h | h
      · rw [Int32.lt_iff_toInt_lt] at h
        have e0 : (0 : Int32).toInt = 0 := by decide
        omega
      · rw [Int32.le_iff_toInt_le] at h
        have e8 : (nI 8).toInt = 8 := by decide
        omega
      · exact h
    have e : (8 : Int32) * nI j + nI i = nI (8 * j + i) := by
      rw [show (8 : Int32) = nI 8 from rfl, pk_mul, nI_add]
    rw [e]
    exact nI_pos' (by omega)
def tl (x : Int32) : Int32 := if x.toInt < 0 ∨ 5 < x.toInt then (-1) else 0
theorem tl_out {x : Int32} (h : x.toInt < 0 ∨ 5 < x.toInt) : (-1) = tl x := by unfold tl; rw [if_pos h]
theorem tl_in {x : Int32} (h : ¬ (x.toInt < 0 ∨ 5 < x.toInt)) : 0 = tl x := by unfold tl; rw [if_neg h]
theorem law_lt {L : Nat} (h : L < 6) : Int32.ofNat L - 6 < 0 := by
  rcases (show L = 0 ∨ L = 1 ∨ L = 2 ∨ L = 3 ∨ L = 4 ∨ L = 5 by omega) with rfl | rfl | rfl | rfl | rfl | rfl <;> decide
theorem arr_of {args : Array Value} {s : State} {ty : FieldType} (hno : ∀ C, ty ≠ .object C) (h : (Cond.arrayClass ty).before args s = true) : ∃ cA : ClassId, ArrOfT s cA ty ∧ va_RA s cA ty := by
  obtain ⟨cA, kA, comp, h1, h2, h3⟩ := Cond.arrayClass_spec h
  refine ⟨cA, fun n z => ⟨fun k h => (by cases h), kA, h2, comp, h3⟩, ?_⟩
  cases ty with
  | object C => exact absurd rfl (hno C)
  | _ => exact h1
-- Arrays.fill(int[], int)
section FILL
variable {p : Program} {l : Launch} {e : Env} {R : Room} {s : State} {m : MethodId} {args : Array Value} {below : List Frame} {meth : Method} {c : Code} {cells slots : Nat} {Q : State → Prop} {g : gG} {A : Nat → Prop} {h0 n : Nat} {v : Int32}
theorem fill_loop (hx : p.tables.exec = Jvm.exec) (hb : c.code = b_Arrays_fill) (hK : va_K g.1 classes (tysG g) s) (hn : n < 2 ^ 31)
    (kx : ∀ (f : Nat → Int32) (ls : Array Slot) (H : Heap) (locs : List Loc), (∀ j, j < n → f j = v) → va_P g.1 classes [(h0, .inl (g.2 1, n, .inl f))] H → va_D A [(h0, .inl (g.2 1, n, .inl f))] → va_S A s.heap H locs → W p l e R s m args below meth c H locs cells slots Q (F0 m 20 ls [])) :
    ∀ (k i : Nat) (f : Nat → Int32) (ls : Array Slot) (H : Heap) (locs : List Loc), i + k = n → (∀ j, j < i → f j = v) → lv_has ls 4 [(2, .int (nI i)), (3, .int (nI n)), (0, .ref h0), (1, .int v)] → va_P g.1 classes [(h0, .inl (g.2 1, n, .inl f))] H → va_D A [(h0, .inl (g.2 1, n, .inl f))] → va_S A s.heap H locs → W p l e R s m args below meth c H locs cells slots Q (F0 m 5 ls []) := by
  intro k
  induction k with
  | zero =>
    intro i f ls H locs hi hf hl hP hD hS
    refine lv_iload_n hx hb d_Arrays_fill_5 rfl (lv_at hl 0 rfl) ?_
    refine lv_iload_n hx hb d_Arrays_fill_6 rfl (lv_at hl 1 rfl) ?_
    refine lv_icmp_ge (tgt := 20) hx hb d_Arrays_fill_7 (by decide) (fun _ => ?_) (fun h9 => absurd (nI_le (by omega) (by omega)) h9)
    exact kx f ls H locs (fun j hj => hf j (by omega)) hP hD hS
  | succ k ih =>
    intro i f ls H locs hi hf hl hP hD hS
    refine lv_iload_n hx hb d_Arrays_fill_5 rfl (lv_at hl 0 rfl) ?_
    refine lv_iload_n hx hb d_Arrays_fill_6 rfl (lv_at hl 1 rfl) ?_
    refine lv_icmp_ge (tgt := 20) hx hb d_Arrays_fill_7 (by decide) (fun h9 => absurd h9 (nI_ge (by omega) (by omega))) (fun _ => ?_)
    refine lv_aload_n hx hb d_Arrays_fill_10 rfl (lv_at hl 2 rfl) ?_
    refine lv_iload_n hx hb d_Arrays_fill_11 rfl (lv_at hl 0 rfl) ?_
    refine lv_iload_n hx hb d_Arrays_fill_12 rfl (lv_at hl 3 rfl) ?_
    refine va_iast (i := nI i) (x := v) hx hb hK hP hD hS 0 1 rfl rfl (vp_in_nI (by omega) hn) d_Arrays_fill_13 (fun H locs hP hD hS => ?_)
    refine lv_iinc (k := 0) (v := nI (i + 1)) (lv' := [(2, .int (nI (i + 1))), (3, .int (nI n)), (0, .ref h0), (1, .int v)]) hx hb d_Arrays_fill_14 hl rfl (nI_succ i).symm (by decide) rfl (fun ls hl => ?_)
    refine lv_goto (tgt := 5) hx hb d_Arrays_fill_17 (by decide) ?_
    refine ih (i + 1) (upd f (nI i).toNatClampNeg v) ls H locs (by omega) (fun j hj => ?_) hl hP hD hS
    unfold upd
    rw [nI_clamp (by omega : i < 2 ^ 31)]
    split
    · rfl
    · exact hf j (by omega)
end FILL
set_option maxHeartbeats 4000000 in
set_option maxRecDepth 100000 in
theorem c_fill (l : Launch) (g : gG) (sz h0 n : Nat) (f : Nat → Int32) (v : Int32) (hn : n < 2 ^ 31) : Cv l y_Arrays_fill b_Arrays_fill 4 { frames := 0, cells := 0, slots := 0, locals := 0 } g [.ref h0, .int v] [(h0, .inl (g.2 1, n, .inl f))] sz (fun w => ∃ f' : Nat → Int32, w = [(h0, .inl (g.2 1, n, .inl f'))] ∧ ∀ j, j < n → f' j = v) := by
  refine startV (by decide) (Nat.le_of_ble_eq_true rfl) ?_
  intro p e s m below meth c A ls hx hb hr hml hlocks hmn hown htt hN hA hP hK hD hS hl
  have hl : lv_has ls 4 [(0, .ref h0), (1, .int v)] := hl
  refine lv_iconst (v := 0) hx hb d_Arrays_fill_0 (by decide) ?_
  refine lv_istore_n (lv' := [(2, .int 0), (0, .ref h0), (1, .int v)]) hx hb d_Arrays_fill_1 rfl hl (by decide) rfl (fun ls hl => ?_)
  refine lv_aload_n hx hb d_Arrays_fill_2 rfl (lv_at hl 1 rfl) ?_
  refine va_alen (v := nI n) hx hb hK hP 0 1 rfl rfl rfl d_Arrays_fill_3 ?_
  refine lv_istore_n (lv' := [(3, .int (nI n)), (2, .int 0), (0, .ref h0), (1, .int v)]) hx hb d_Arrays_fill_4 rfl hl (by decide) rfl (fun ls hl => ?_)
  exact fill_loop hx hb hK hn (fun f' ls H locs hf hP hD hS => fin_v (g := g) (ws := [(h0, .inl (g.2 1, n, .inl f'))]) hx hb hr hlocks (Nat.le_of_ble_eq_true rfl) (Nat.le_of_ble_eq_true rfl) hP hD hS ⟨f', rfl, hf⟩ d_Arrays_fill_20) n 0 f ls _ _ (by omega) (fun j h => absurd h (Nat.not_lt_zero j)) (lv_sub hl [1, 0, 2, 3] rfl) hP hD hS

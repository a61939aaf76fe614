theorem bI_narrow0 : narrow .boolean (.int 0) = .int 0 := rfl

theorem d_MM_areSame_0 : decode b_MM_areSame 0 = .ok (.iconst 0, 1) := by decide +kernel
theorem d_MM_areSame_1 : decode b_MM_areSame 1 = .ok (.istore 5, 2) := by decide +kernel
theorem d_MM_areSame_3 : decode b_MM_areSame 3 = .ok (.iload 5, 2) := by decide +kernel
theorem d_MM_areSame_5 : decode b_MM_areSame 5 = .ok (.iload 4, 2) := by decide +kernel
theorem d_MM_areSame_7 : decode b_MM_areSame 7 = .ok (.if_icmp .ge 26, 3) := by decide +kernel
theorem d_MM_areSame_10 : decode b_MM_areSame 10 = .ok (.aload_n 0, 1) := by decide +kernel
theorem d_MM_areSame_11 : decode b_MM_areSame 11 = .ok (.iload_n 1, 1) := by decide +kernel
theorem d_MM_areSame_12 : decode b_MM_areSame 12 = .ok (.iload 5, 2) := by decide +kernel
theorem d_MM_areSame_14 : decode b_MM_areSame 14 = .ok (.iadd, 1) := by decide +kernel
theorem d_MM_areSame_15 : decode b_MM_areSame 15 = .ok (.baload, 1) := by decide +kernel
theorem d_MM_areSame_16 : decode b_MM_areSame 16 = .ok (.aload_n 2, 1) := by decide +kernel
theorem d_MM_areSame_17 : decode b_MM_areSame 17 = .ok (.iload_n 3, 1) := by decide +kernel
theorem d_MM_areSame_18 : decode b_MM_areSame 18 = .ok (.iload 5, 2) := by decide +kernel
theorem d_MM_areSame_20 : decode b_MM_areSame 20 = .ok (.iadd, 1) := by decide +kernel
theorem d_MM_areSame_21 : decode b_MM_areSame 21 = .ok (.baload, 1) := by decide +kernel
theorem d_MM_areSame_22 : decode b_MM_areSame 22 = .ok (.if_icmp .eq 5, 3) := by decide +kernel
theorem d_MM_areSame_25 : decode b_MM_areSame 25 = .ok (.iconst 0, 1) := by decide +kernel
theorem d_MM_areSame_26 : decode b_MM_areSame 26 = .ok (.ireturn, 1) := by decide +kernel
theorem d_MM_areSame_27 : decode b_MM_areSame 27 = .ok (.iinc 5 1, 3) := by decide +kernel
theorem d_MM_areSame_30 : decode b_MM_areSame 30 = .ok (.goto (-27), 3) := by decide +kernel
theorem d_MM_areSame_33 : decode b_MM_areSame 33 = .ok (.iconst 1, 1) := by decide +kernel
theorem d_MM_areSame_34 : decode b_MM_areSame 34 = .ok (.ireturn, 1) := by decide +kernel
theorem d_Files_find_0 : decode b_Files_find 0 = .ok (.iconst 0, 1) := by decide +kernel
theorem d_Files_find_1 : decode b_Files_find 1 = .ok (.istore_n 3, 1) := by decide +kernel
theorem d_Files_find_2 : decode b_Files_find 2 = .ok (.iload_n 3, 1) := by decide +kernel
theorem d_Files_find_3 : decode b_Files_find 3 = .ok (.aload_n 0, 1) := by decide +kernel
theorem d_Files_find_4 : decode b_Files_find 4 = .ok (.getfield 26, 3) := by decide +kernel
theorem d_Files_find_7 : decode b_Files_find 7 = .ok (.if_icmp .ge 38, 3) := by decide +kernel
theorem d_Files_find_10 : decode b_Files_find 10 = .ok (.aload_n 0, 1) := by decide +kernel
theorem d_Files_find_11 : decode b_Files_find 11 = .ok (.getfield 19, 3) := by decide +kernel
theorem d_Files_find_14 : decode b_Files_find 14 = .ok (.iload_n 3, 1) := by decide +kernel
theorem d_Files_find_15 : decode b_Files_find 15 = .ok (.iaload, 1) := by decide +kernel
theorem d_Files_find_16 : decode b_Files_find 16 = .ok (.iload_n 2, 1) := by decide +kernel
theorem d_Files_find_17 : decode b_Files_find 17 = .ok (.if_icmp .ne 22, 3) := by decide +kernel
theorem d_Files_find_20 : decode b_Files_find 20 = .ok (.aload_n 0, 1) := by decide +kernel
theorem d_Files_find_21 : decode b_Files_find 21 = .ok (.getfield 16, 3) := by decide +kernel
theorem d_Files_find_24 : decode b_Files_find 24 = .ok (.iload_n 3, 1) := by decide +kernel
theorem d_Files_find_25 : decode b_Files_find 25 = .ok (.bipush 64, 2) := by decide +kernel
theorem d_Files_find_27 : decode b_Files_find 27 = .ok (.imul, 1) := by decide +kernel
theorem d_Files_find_28 : decode b_Files_find 28 = .ok (.aload_n 1, 1) := by decide +kernel
theorem d_Files_find_29 : decode b_Files_find 29 = .ok (.iconst 0, 1) := by decide +kernel
theorem d_Files_find_30 : decode b_Files_find 30 = .ok (.iload_n 2, 1) := by decide +kernel
theorem d_Files_find_31 : decode b_Files_find 31 = .ok (.invokestatic 30, 3) := by decide +kernel
theorem d_Files_find_34 : decode b_Files_find 34 = .ok (.ifCond .eq 5, 3) := by decide +kernel
theorem d_Files_find_37 : decode b_Files_find 37 = .ok (.iload_n 3, 1) := by decide +kernel
theorem d_Files_find_38 : decode b_Files_find 38 = .ok (.ireturn, 1) := by decide +kernel
theorem d_Files_find_39 : decode b_Files_find 39 = .ok (.iinc 3 1, 3) := by decide +kernel
theorem d_Files_find_42 : decode b_Files_find 42 = .ok (.goto (-40), 3) := by decide +kernel
theorem d_Files_find_45 : decode b_Files_find 45 = .ok (.iconst (-1), 1) := by decide +kernel
theorem d_Files_find_46 : decode b_Files_find 46 = .ok (.ireturn, 1) := by decide +kernel
theorem d_Files_lengthOf_0 : decode b_Files_lengthOf 0 = .ok (.aload_n 0, 1) := by decide +kernel
theorem d_Files_lengthOf_1 : decode b_Files_lengthOf 1 = .ok (.getfield 23, 3) := by decide +kernel
theorem d_Files_lengthOf_4 : decode b_Files_lengthOf 4 = .ok (.iload_n 1, 1) := by decide +kernel
theorem d_Files_lengthOf_5 : decode b_Files_lengthOf 5 = .ok (.iconst 1, 1) := by decide +kernel
theorem d_Files_lengthOf_6 : decode b_Files_lengthOf 6 = .ok (.iadd, 1) := by decide +kernel
theorem d_Files_lengthOf_7 : decode b_Files_lengthOf 7 = .ok (.iaload, 1) := by decide +kernel
theorem d_Files_lengthOf_8 : decode b_Files_lengthOf 8 = .ok (.aload_n 0, 1) := by decide +kernel
theorem d_Files_lengthOf_9 : decode b_Files_lengthOf 9 = .ok (.getfield 23, 3) := by decide +kernel
theorem d_Files_lengthOf_12 : decode b_Files_lengthOf 12 = .ok (.iload_n 1, 1) := by decide +kernel
theorem d_Files_lengthOf_13 : decode b_Files_lengthOf 13 = .ok (.iaload, 1) := by decide +kernel
theorem d_Files_lengthOf_14 : decode b_Files_lengthOf 14 = .ok (.isub, 1) := by decide +kernel
theorem d_Files_lengthOf_15 : decode b_Files_lengthOf 15 = .ok (.ireturn, 1) := by decide +kernel
set_option maxHeartbeats 4000000 in
set_option maxRecDepth 100000 in
theorem c_areSame_loop {p : Program} {l : Launch} {e : Env} {R : Room} {s : State} {m : MethodId} {args : Array Value} {below : List Frame} {meth : Method} {c : Code} {cells slots : Nat} {Q : State → Prop} {g : gG} {A : Nat → Prop} {ad : Nat → Nat} (hx : p.tables.exec = Jvm.exec) (hb : c.code = b_MM_areSame) (hml : c.maxLocals = 6) (hown : s.vm.findClass "MacroMill" = some m.cls) (htt : ∀ w ∈ gt, w.before args s = true) (hK : va_K g.1 classes (tysG g) s) (hN : nw s) (hA : ∀ q : Nat, s.heap.size ≤ q → A q) (S : sS) (x : Nat) (nx : Nat) (y : Nat) (ny : Nat) (p0 : Nat) (q0 : Nat) (n : Nat) (hxa : shC.2[x]? = some (0, nx)) (hya : shC.2[y]? = some (0, ny)) (hnx : nx < 2 ^ 31) (hny : ny < 2 ^ 31) (hpx : p0 + n ≤ nx) (hqy : q0 + n ≤ ny)
    (kx_33 : ∀ (i : Nat) (ls : Array Slot) (H : Heap) (locs : List Loc), i ≤ n → (∀ k, k < i → S.2.1 x (p0 + k) = S.2.1 y (q0 + k)) → i = n →  lv_has ls 6 [(5, .int (nI i)), (0, .ref (ad (shC.1.length + x))), (1, .int (nI p0)), (2, .ref (ad (shC.1.length + y))), (3, .int (nI q0)), (4, .int (nI n))] → va_P g.1 classes (Sw shC g ad S) H → va_D A (Sw shC g ad S) → va_S A s.heap H locs → W p l e R s m args below meth c H locs cells slots Q (F0 m 33 ls []))
    (kx_25 : ∀ (i : Nat) (ls : Array Slot) (H : Heap) (locs : List Loc), i ≤ n → (∀ k, k < i → S.2.1 x (p0 + k) = S.2.1 y (q0 + k)) → (∃ k, k < n ∧ ¬ S.2.1 x (p0 + k) = S.2.1 y (q0 + k)) →  lv_has ls 6 [(5, .int (nI i)), (0, .ref (ad (shC.1.length + x))), (1, .int (nI p0)), (2, .ref (ad (shC.1.length + y))), (3, .int (nI q0)), (4, .int (nI n))] → va_P g.1 classes (Sw shC g ad S) H → va_D A (Sw shC g ad S) → va_S A s.heap H locs → W p l e R s m args below meth c H locs cells slots Q (F0 m 25 ls [])) :
    ∀ (k9 : Nat) (i : Nat) (ls : Array Slot) (H : Heap) (locs : List Loc), n - i < k9 → i ≤ n → (∀ k, k < i → S.2.1 x (p0 + k) = S.2.1 y (q0 + k)) → lv_has ls 6 [(5, .int (nI i)), (0, .ref (ad (shC.1.length + x))), (1, .int (nI p0)), (2, .ref (ad (shC.1.length + y))), (3, .int (nI q0)), (4, .int (nI n))] → va_P g.1 classes (Sw shC g ad S) H → va_D A (Sw shC g ad S) → va_S A s.heap H locs → W p l e R s m args below meth c H locs cells slots Q (F0 m 3 ls []) := by
  intro k9
  induction k9 with
  | zero =>
    intro i ls H locs hk9 hi he hl hP hD hS
    exact absurd hk9 (Nat.not_lt_zero _)
  | succ k9 ih =>
    intro i ls H locs hk9 hi he hl hP hD hS
    refine lv_iload hx hb d_MM_areSame_3 (lv_at hl 0 rfl) ?_
    refine lv_iload hx hb d_MM_areSame_5 (lv_at hl 5 rfl) ?_
    refine lv_icmp_ge (tgt := 33) hx hb d_MM_areSame_7 (by decide) (fun h1 => ?_) (fun h1 => ?_)
    · exact kx_33 i ls H locs hi he (by have h2 := nI_le_of (by omega) (by omega) h1; omega) (lv_sub hl [0, 1, 2, 3, 4, 5] rfl) hP hD hS
    · have h3 : i < n := nI_lt_of (by omega) (by omega) h1
      refine lv_aload_n hx hb d_MM_areSame_10 rfl (lv_at hl 1 rfl) ?_
      refine lv_iload_n hx hb d_MM_areSame_11 rfl (lv_at hl 2 rfl) ?_
      refine lv_iload hx hb d_MM_areSame_12 (lv_at hl 0 rfl) ?_
      refine lv_iadd hx hb d_MM_areSame_14 ?_
      refine toI (y := nI (p0 + i)) (nI_add p0 i) ?_
      refine S_bald (h := shC) (i := nI (p0 + i)) hx hb hK hP x hxa (vp_in_nI (by omega) hnx) d_MM_areSame_15 ?_
      refine toI (y := S.2.1 x (p0 + i)) (by rw [nI_clamp (by omega)]) ?_
      refine lv_aload_n hx hb d_MM_areSame_16 rfl (lv_at hl 3 rfl) ?_
      refine lv_iload_n hx hb d_MM_areSame_17 rfl (lv_at hl 4 rfl) ?_
      refine lv_iload hx hb d_MM_areSame_18 (lv_at hl 0 rfl) ?_
      show W _ _ _ _ _ _ _ _ _ _ _ _ _ _ _ (F0 _ 20 _ _)
      refine lv_iadd hx hb d_MM_areSame_20 ?_
      refine toI (y := nI (q0 + i)) (nI_add q0 i) ?_
      refine S_bald (h := shC) (i := nI (q0 + i)) hx hb hK hP y hya (vp_in_nI (by omega) hny) d_MM_areSame_21 ?_
      refine toI (y := S.2.1 y (q0 + i)) (by rw [nI_clamp (by omega)]) ?_
      refine lv_icmp_eq (tgt := 27) hx hb d_MM_areSame_22 (by decide) (fun h2 => ?_) (fun h2 => ?_)
      · refine lv_iinc (k := 0) (v := nI (i + 1)) (lv' := [(5, .int (nI (i + 1))), (0, .ref (ad (shC.1.length + x))), (1, .int (nI p0)), (2, .ref (ad (shC.1.length + y))), (3, .int (nI q0)), (4, .int (nI n))]) hx hb d_MM_areSame_27 hl rfl (nI_succ i).symm (by decide) rfl (fun ls hl => ?_)
        refine lv_goto (tgt := 3) hx hb d_MM_areSame_30 (by decide) ?_
        exact ih (i + 1) ls H locs (by omega) (by omega) (lt_s he h2) (lv_sub hl [0, 1, 2, 3, 4, 5] rfl) hP hD hS
      · exact kx_25 i ls H locs hi he (⟨i, h3, h2⟩) (lv_sub hl [0, 1, 2, 3, 4, 5] rfl) hP hD hS
abbrev rm_c_areSame : Room := { frames := 0, cells := 0, slots := 0, locals := 0 }
set_option maxHeartbeats 4000000 in
set_option maxRecDepth 100000 in
theorem c_areSame (l : Launch) (g : gG) (sz : Nat) (ad : Nat → Nat) (S : sS) (x : Nat) (nx : Nat) (y : Nat) (ny : Nat) (p0 : Nat) (q0 : Nat) (n : Nat) (hxa : shC.2[x]? = some (0, nx)) (hya : shC.2[y]? = some (0, ny)) (hnx : nx < 2 ^ 31) (hny : ny < 2 ^ 31) (hpx : p0 + n ≤ nx) (hqy : q0 + n ≤ ny) : Cz l y_MM_areSame b_MM_areSame 6 rm_c_areSame g [.ref (ad (shC.1.length + x)), .int (nI p0), .ref (ad (shC.1.length + y)), .int (nI q0), .int (nI n)] (Sw shC g ad S) sz (fun r w => ∃ S' : sS, w = Sw shC g ad S' ∧ S' = S ∧ (r = 1 ∧ (∀ k, k < n → S.2.1 x (p0 + k) = S.2.1 y (q0 + k)) ∨ r = 0 ∧ ∃ k, k < n ∧ ¬ S.2.1 x (p0 + k) = S.2.1 y (q0 + k))) := by
  refine startZ (by decide) (Nat.le_of_ble_eq_true rfl) ?_
  intro p e s m below meth c A ls hx hb hr hml hlocks hmn hown htt hN hA hP hK hD hS hl
  have hown : s.vm.findClass "MacroMill" = some m.cls := hown
  have hl : lv_has ls 6 [(0, .ref (ad (shC.1.length + x))), (1, .int (nI p0)), (2, .ref (ad (shC.1.length + y))), (3, .int (nI q0)), (4, .int (nI n))] := hl
  refine lv_iconst (v := 0) hx hb d_MM_areSame_0 (by decide) ?_
  refine lv_istore (lv' := [(5, .int 0), (0, .ref (ad (shC.1.length + x))), (1, .int (nI p0)), (2, .ref (ad (shC.1.length + y))), (3, .int (nI q0)), (4, .int (nI n))]) hx hb d_MM_areSame_1 hl (by decide) rfl (fun ls hl => ?_)
  refine c_areSame_loop hx hb hml hown htt hK hN hA S x nx y ny p0 q0 n hxa hya hnx hny hpx hqy (fun i2 ls H locs hi2 he2 hz0 hl hP hD hS => ?_) (fun i2 ls H locs hi2 he2 hz0 hl hP hD hS => ?_) (n - 0 + 1) 0 ls _ _ (by omega) (Nat.zero_le _) (fun k h9 => absurd h9 (Nat.not_lt_zero k)) (lv_sub hl [0, 1, 2, 3, 4, 5] rfl) hP hD hS
  · refine lv_iconst (v := 1) hx hb d_MM_areSame_33 (by decide) ?_
    exact fin_z (g := g) (ws := Sw shC g ad S) (v := 1) hx hb hr hlocks rfl (by decide +kernel) (by decide +kernel) hP hD hS ⟨S, rfl, rfl, Or.inl ⟨rfl, by rw [hz0] at he2; exact he2⟩⟩ d_MM_areSame_34
  · refine lv_iconst (v := 0) hx hb d_MM_areSame_25 (by decide) ?_
    exact fin_z (g := g) (ws := Sw shC g ad S) (v := 0) hx hb hr hlocks rfl (by decide +kernel) (by decide +kernel) hP hD hS ⟨S, rfl, rfl, Or.inr ⟨rfl, hz0⟩⟩ d_MM_areSame_26
abbrev rm_c_lengthOf : Room := { frames := 0, cells := 0, slots := 0, locals := 0 }
set_option maxHeartbeats 4000000 in
set_option maxRecDepth 100000 in
theorem c_lengthOf (l : Launch) (g : gG) (sz : Nat) (ad : Nat → Nat) (S : sS) (j : Nat) (hj : j < 32) : Ci l y_Files_lengthOf b_Files_lengthOf 2 rm_c_lengthOf g [.ref (ad 1), .int (nI j)] (Sw shC g ad S) sz (fun r w => ∃ S' : sS, w = Sw shC g ad S' ∧ r = (S.2.1 4 (j + 1)) - (S.2.1 4 j) ∧ S' = S) := by
  refine startI (by decide) (Nat.le_of_ble_eq_true rfl) ?_
  intro p e s m below meth c A ls hx hb hr hml hlocks hmn hown htt hN hA hP hK hD hS hl
  have hown : s.vm.findClass "MacroMill$Files" = some m.cls := hown
  have hl : lv_has ls 2 [(0, .ref (ad 1)), (1, .int (nI j))] := hl
  refine lv_aload_n hx hb d_Files_lengthOf_0 rfl (lv_at hl 0 rfl) ?_
  refine S_getR (h := shC) (C := "MacroMill$Files") (T := F_Files) hx hb htt in_Files hown hK hP 1 3 rfl 17 rfl rfl (by decide) (htt _ k_308) (fun _ h9 => h9) d_Files_lengthOf_1 ?_
  refine lv_iload_n hx hb d_Files_lengthOf_4 rfl (lv_at hl 1 rfl) ?_
  refine lv_iconst (v := 1) hx hb d_Files_lengthOf_5 (by decide) ?_
  refine lv_iadd hx hb d_Files_lengthOf_6 ?_
  refine toI (y := nI (j + 1)) (nI_1 j) ?_
  refine S_iald (h := shC) (i := nI (j + 1)) hx hb hK hP 4 rfl (vp_in_nI (by omega) (by decide)) d_Files_lengthOf_7 ?_
  refine toI (y := S.2.1 4 (j + 1)) (by rw [nI_clamp (by omega)]) ?_
  refine lv_aload_n hx hb d_Files_lengthOf_8 rfl (lv_at hl 0 rfl) ?_
  refine S_getR (h := shC) (C := "MacroMill$Files") (T := F_Files) hx hb htt in_Files hown hK hP 1 3 rfl 17 rfl rfl (by decide) (htt _ k_308) (fun _ h9 => h9) d_Files_lengthOf_9 ?_
  refine lv_iload_n hx hb d_Files_lengthOf_12 rfl (lv_at hl 1 rfl) ?_
  refine S_iald (h := shC) (i := nI j) hx hb hK hP 4 rfl (vp_in_nI (by omega) (by decide)) d_Files_lengthOf_13 ?_
  refine toI (y := S.2.1 4 j) (by rw [nI_clamp (by omega)]) ?_
  refine lv_isub hx hb d_Files_lengthOf_14 ?_
  show W _ _ _ _ _ _ _ _ _ _ _ _ _ _ _ (F0 _ 15 _ _)
  exact fin_i (g := g) (ws := Sw shC g ad S) (v := (S.2.1 4 (j + 1)) - (S.2.1 4 j)) hx hb hr hlocks (by decide +kernel) (by decide +kernel) hP hD hS ⟨_, rfl, rfl, rfl⟩ d_Files_lengthOf_15
set_option maxHeartbeats 4000000 in
set_option maxRecDepth 100000 in
theorem c_find_loop {p : Program} {l : Launch} {e : Env} {R : Room} {s : State} {m : MethodId} {args : Array Value} {below : List Frame} {meth : Method} {c : Code} {cells slots : Nat} {Q : State → Prop} {g : gG} {A : Nat → Prop} {ad : Nat → Nat} (hx : p.tables.exec = Jvm.exec) (hb : c.code = b_Files_find) (hml : c.maxLocals = 4) (hown : s.vm.findClass "MacroMill$Files" = some m.cls) (htt : ∀ w ∈ gt, w.before args s = true) (hK : va_K g.1 classes (tysG g) s) (hN : nw s) (hA : ∀ q : Nat, s.heap.size ≤ q → A q) (hRf : 1 ≤ R.frames) (hRl : 25 ≤ R.locals) (hRc : cells ≤ R.cells) (hRs : slots ≤ R.slots) (S : sS) (y : Nat) (ny : Nat) (n : Nat) (cnt : Nat) (hya : shC.2[y]? = some (0, ny)) (hny : ny < 2 ^ 31) (hn : n ≤ 64) (hqy : n ≤ ny) (hc : S.1 1 4 = nI cnt) (hc2 : cnt ≤ 32)
    (kx_45 : ∀ (i : Nat) (ls : Array Slot) (H : Heap) (locs : List Loc), i ≤ cnt → (∀ k, k < i → ¬ (S.2.1 3 k = nI n ∧ ∀ k2, k2 < n → S.2.1 2 (k * 64 + k2) = S.2.1 y (0 + k2))) → i = cnt →  lv_has ls 4 [(3, .int (nI i)), (0, .ref (ad 1)), (1, .ref (ad (shC.1.length + y))), (2, .int (nI n))] → va_P g.1 classes (Sw shC g ad S) H → va_D A (Sw shC g ad S) → va_S A s.heap H locs → W p l e R s m args below meth c H locs cells slots Q (F0 m 45 ls []))
    (kx_37 : ∀ (i : Nat) (ls : Array Slot) (H : Heap) (locs : List Loc), i ≤ cnt → (∀ k, k < i → ¬ (S.2.1 3 k = nI n ∧ ∀ k2, k2 < n → S.2.1 2 (k * 64 + k2) = S.2.1 y (0 + k2))) → i < cnt → (S.2.1 3 i = nI n ∧ ∀ k, k < n → S.2.1 2 (i * 64 + k) = S.2.1 y (0 + k)) →  lv_has ls 4 [(3, .int (nI i)), (0, .ref (ad 1)), (1, .ref (ad (shC.1.length + y))), (2, .int (nI n))] → va_P g.1 classes (Sw shC g ad S) H → va_D A (Sw shC g ad S) → va_S A s.heap H locs → W p l e R s m args below meth c H locs cells slots Q (F0 m 37 ls [])) :
    ∀ (k9 : Nat) (i : Nat) (ls : Array Slot) (H : Heap) (locs : List Loc), cnt - i < k9 → i ≤ cnt → (∀ k, k < i → ¬ (S.2.1 3 k = nI n ∧ ∀ k2, k2 < n → S.2.1 2 (k * 64 + k2) = S.2.1 y (0 + k2))) → lv_has ls 4 [(3, .int (nI i)), (0, .ref (ad 1)), (1, .ref (ad (shC.1.length + y))), (2, .int (nI n))] → va_P g.1 classes (Sw shC g ad S) H → va_D A (Sw shC g ad S) → va_S A s.heap H locs → W p l e R s m args below meth c H locs cells slots Q (F0 m 2 ls []) := by
  intro k9
  induction k9 with
  | zero =>
    intro i ls H locs hk9 hi he hl hP hD hS
    exact absurd hk9 (Nat.not_lt_zero _)
  | succ k9 ih =>
    intro i ls H locs hk9 hi he hl hP hD hS
    refine lv_iload_n hx hb d_Files_find_2 rfl (lv_at hl 0 rfl) ?_
    refine lv_aload_n hx hb d_Files_find_3 rfl (lv_at hl 1 rfl) ?_
    refine S_getI (h := shC) (C := "MacroMill$Files") (T := F_Files) hx hb htt in_Files hown hK hP 1 4 rfl rfl rfl (by decide) (htt _ k_311) (fun _ h9 => h9) d_Files_find_4 ?_
    refine toI (y := nI cnt) hc ?_
    refine lv_icmp_ge (tgt := 45) hx hb d_Files_find_7 (by decide) (fun h1 => ?_) (fun h1 => ?_)
    · exact kx_45 i ls H locs hi he (by have h2 := nI_le_of (by omega) (by omega) h1; omega) (lv_sub hl [0, 1, 2, 3] rfl) hP hD hS
    · have h3 : i < cnt := nI_lt_of (by omega) (by omega) h1
      refine lv_aload_n hx hb d_Files_find_10 rfl (lv_at hl 1 rfl) ?_
      refine S_getR (h := shC) (C := "MacroMill$Files") (T := F_Files) hx hb htt in_Files hown hK hP 1 2 rfl 16 rfl rfl (by decide) (htt _ k_306) (fun _ h9 => h9) d_Files_find_11 ?_
      refine lv_iload_n hx hb d_Files_find_14 rfl (lv_at hl 0 rfl) ?_
      refine S_iald (h := shC) (i := nI i) hx hb hK hP 3 rfl (vp_in_nI (by omega) (by decide)) d_Files_find_15 ?_
      refine toI (y := S.2.1 3 i) (by rw [nI_clamp (by omega)]) ?_
      refine lv_iload_n hx hb d_Files_find_16 rfl (lv_at hl 3 rfl) ?_
      refine lv_icmp_ne (tgt := 39) hx hb d_Files_find_17 (by decide) (fun h4 => ?_) (fun h4 => ?_)
      · refine lv_iinc (k := 0) (v := nI (i + 1)) (lv' := [(3, .int (nI (i + 1))), (0, .ref (ad 1)), (1, .ref (ad (shC.1.length + y))), (2, .int (nI n))]) hx hb d_Files_find_39 hl rfl (nI_succ i).symm (by decide) rfl (fun ls hl => ?_)
        show W _ _ _ _ _ _ _ _ _ _ _ _ _ _ _ (F0 _ 42 _ _)
        refine lv_goto (tgt := 2) hx hb d_Files_find_42 (by decide) ?_
        exact ih (i + 1) ls H locs (by omega) (by omega) (lt_s he (fun z => h4 z.1)) (lv_sub hl [0, 1, 2, 3] rfl) hP hD hS
      · refine lv_aload_n hx hb d_Files_find_20 rfl (lv_at hl 1 rfl) ?_
        show W _ _ _ _ _ _ _ _ _ _ _ _ _ _ _ (F0 _ 21 _ _)
        refine S_getR (h := shC) (C := "MacroMill$Files") (T := F_Files) hx hb htt in_Files hown hK hP 1 1 rfl 15 rfl rfl (by decide) (htt _ k_304) (fun _ h9 => h9) d_Files_find_21 ?_
        refine lv_iload_n hx hb d_Files_find_24 rfl (lv_at hl 0 rfl) ?_
        refine lv_bipush (v := 64) hx hb d_Files_find_25 (by decide) ?_
        refine lv_imul hx hb d_Files_find_27 ?_
        refine toI (y := nI (i * 64)) (pk_mul i 64) ?_
        refine lv_aload_n hx hb d_Files_find_28 rfl (lv_at hl 2 rfl) ?_
        refine lv_iconst (v := 0) hx hb d_Files_find_29 (by decide) ?_
        refine lv_iload_n hx hb d_Files_find_30 rfl (lv_at hl 3 rfl) ?_
        refine go_iS (As := [.ref (ad 15), .int (nI (i * 64)), .ref (ad (shC.1.length + y)), .int 0, .int (nI n)]) (g := g) (A := A) (h := shC) hP hK hD hS hA hN (fun hp => va_runSN (As := [.ref (ad 15), .int (nI (i * 64)), .ref (ad (shC.1.length + y)), .int 0, .int (nI n)]) (rest := []) ⟨hx, hb, hml, hown, htt⟩ (c_areSame l g _ ad S 2 2048 y ny (i * 64) 0 n rfl hya (by omega) (by omega) (by omega) (by omega)) ⟨(cb_N (host := "MacroMill") htt k_1012 k_262 hN nM_5 hd_MM_areSame ⟨(Nat.le_trans (by decide +kernel) hRf), (Nat.le_trans (by decide +kernel) hRl)⟩), htt _ k_1011, trivial⟩ hp rfl rfl hl.1 rfl (lv_room (Nat.le_of_ble_eq_true rfl)) d_Files_find_31 ⟨(hRc), (hRs)⟩) (fun r9 Sn H locs hw9 hP hD hS => ?_)
        obtain ⟨e9, hr9⟩ := hw9
        rw [e9] at hP hD
        refine W.widen (k := cells) (n := slots) (Nat.le_refl _) (Nat.le_refl _) ?_
        rcases hr9 with hr9 | hr9
        · refine toI (y := 1) hr9.1 ?_
          refine lv_if_eq (tgt := 39) hx hb d_Files_find_34 (by decide) (fun h9 => absurd h9 (by decide)) (fun _ => ?_)
          exact kx_37 i ls H locs hi he h3 (⟨h4, hr9.2⟩) (lv_sub hl [0, 1, 2, 3] rfl) hP hD hS
        · refine toI (y := 0) hr9.1 ?_
          refine lv_if_eq (tgt := 39) hx hb d_Files_find_34 (by decide) (fun _ => ?_) (fun h9 => absurd rfl h9)
          refine lv_iinc (k := 0) (v := nI (i + 1)) (lv' := [(3, .int (nI (i + 1))), (0, .ref (ad 1)), (1, .ref (ad (shC.1.length + y))), (2, .int (nI n))]) hx hb d_Files_find_39 hl rfl (nI_succ i).symm (by decide) rfl (fun ls hl => ?_)
          refine lv_goto (tgt := 2) hx hb d_Files_find_42 (by decide) ?_
          exact ih (i + 1) ls H locs (by omega) (by omega) (lt_s he (fun z => Exists.elim hr9.2 (fun k5 h5 => h5.2 (z.2 k5 h5.1)))) (lv_sub hl [0, 1, 2, 3] rfl) hP hD hS
abbrev rm_c_find : Room := { frames := 1, cells := 0, slots := 0, locals := 25 }
set_option maxHeartbeats 4000000 in
set_option maxRecDepth 100000 in
theorem c_find (l : Launch) (g : gG) (sz : Nat) (ad : Nat → Nat) (S : sS) (y : Nat) (ny : Nat) (n : Nat) (cnt : Nat) (hya : shC.2[y]? = some (0, ny)) (hny : ny < 2 ^ 31) (hn : n ≤ 64) (hqy : n ≤ ny) (hc : S.1 1 4 = nI cnt) (hc2 : cnt ≤ 32) : Ci l y_Files_find b_Files_find 4 rm_c_find g [.ref (ad 1), .ref (ad (shC.1.length + y)), .int (nI n)] (Sw shC g ad S) sz (fun r w => ∃ S' : sS, w = Sw shC g ad S' ∧ S' = S ∧ ((∃ i, i < cnt ∧ r = nI i ∧ (S.2.1 3 i = nI n ∧ ∀ k, k < n → S.2.1 2 (i * 64 + k) = S.2.1 y (0 + k))) ∨ r = (-1) ∧ ∀ k, k < cnt → ¬ (S.2.1 3 k = nI n ∧ ∀ k2, k2 < n → S.2.1 2 (k * 64 + k2) = S.2.1 y (0 + k2)))) := by
  refine startI (by decide) (Nat.le_of_ble_eq_true rfl) ?_
  intro p e s m below meth c A ls hx hb hr hml hlocks hmn hown htt hN hA hP hK hD hS hl
  have hown : s.vm.findClass "MacroMill$Files" = some m.cls := hown
  have hl : lv_has ls 4 [(0, .ref (ad 1)), (1, .ref (ad (shC.1.length + y))), (2, .int (nI n))] := hl
  refine lv_iconst (v := 0) hx hb d_Files_find_0 (by decide) ?_
  refine lv_istore_n (lv' := [(3, .int 0), (0, .ref (ad 1)), (1, .ref (ad (shC.1.length + y))), (2, .int (nI n))]) hx hb d_Files_find_1 rfl hl (by decide) rfl (fun ls hl => ?_)
  refine c_find_loop hx hb hml hown htt hK hN hA (by decide +kernel) (by decide +kernel) (by decide +kernel) (by decide +kernel) S y ny n cnt hya hny hn hqy hc hc2 (fun i2 ls H locs hi2 he2 hz0 hl hP hD hS => ?_) (fun i2 ls H locs hi2 he2 hz0 hz1 hl hP hD hS => ?_) (cnt - 0 + 1) 0 ls _ _ (by omega) (Nat.zero_le _) (fun k h9 => absurd h9 (Nat.not_lt_zero k)) (lv_sub hl [0, 1, 2, 3] rfl) hP hD hS
  · refine lv_iconst (v := (-1)) hx hb d_Files_find_45 (by decide) ?_
    exact fin_i (g := g) (ws := Sw shC g ad S) (v := (-1)) hx hb hr hlocks (by decide +kernel) (by decide +kernel) hP hD hS ⟨S, rfl, rfl, Or.inr ⟨rfl, by rw [hz0] at he2; exact he2⟩⟩ d_Files_find_46
  · refine lv_iload_n hx hb d_Files_find_37 rfl (lv_at hl 0 rfl) ?_
    exact fin_i (g := g) (ws := Sw shC g ad S) (v := nI i2) hx hb hr hlocks (by decide +kernel) (by decide +kernel) hP hD hS ⟨S, rfl, rfl, Or.inl ⟨i2, hz0, rfl, hz1⟩⟩ d_Files_find_38

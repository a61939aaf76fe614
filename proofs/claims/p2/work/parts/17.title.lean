theorem nar_fit {x : Int32} (h : fits .byte (.int x) = true) : vp_nar .byte x = x := by
  have h1 : -128 ≤ x ∧ x ≤ 127 := by simpa [fits] using h
  rw [vp_nar_byte]
  apply Int32.toInt_inj.mp
  have a := Int32.le_iff_toInt_le.mp h1.1
  have b := Int32.le_iff_toInt_le.mp h1.2
  have e1 : (-128 : Int32).toInt = -128 := by decide
  have e2 : (127 : Int32).toInt = 127 := by decide
  rw [e1] at a
  rw [e2] at b
  rw [Int8.toInt_toInt32, Int32.toInt_toInt8]
  show x.toInt.bmod 256 = x.toInt
  first
    | exact Int.bmod_eq_of_le (by omega) (by omega)
    | (rw [Int.bmod_def]; split <;> omega)
theorem cpy_step {α : Type} {f g : Nat → α} {sp dp k : Nat} : (fun j => if j = dp + k then f (sp + k) else va_cpy f g sp dp k j) = va_cpy f g sp dp (k + 1) := by
  funext j
  unfold va_cpy
  by_cases h : j = dp + k
  · subst h
    rw [if_pos rfl, if_pos ⟨by omega, by omega⟩]
    congr 1
    omega
  · rw [if_neg h]
    by_cases h2 : dp ≤ j ∧ j < dp + k
    · rw [if_pos h2, if_pos ⟨h2.1, by omega⟩]
    · rw [if_neg h2, if_neg (fun z => h2 ⟨z.1, by omega⟩)]
theorem cpy_upd {f g : Nat → Int32} {sp dp k : Nat} : upd (va_cpy f g sp dp k) (dp + k) (f (sp + k)) = va_cpy f g sp dp (k + 1) := cpy_step
theorem cpy_zero {α : Type} {f g : Nat → α} {sp dp : Nat} : va_cpy f g sp dp 0 = g := by
  funext j
  unfold va_cpy
  rw [if_neg (fun z => by omega)]
theorem setF_self {S : sS} {a : Nat} : setF S a (S.2.1 a) = S := by
  unfold setF
  have e : (fun b => if b = a then S.2.1 a else S.2.1 b) = S.2.1 := by
    funext b
    by_cases h : b = a
    · subst h; simp
    · simp [h]
  rw [e]
theorem putI_self {S : sS} {o k : Nat} {v : Int32} (h : S.1 o k = v) : putI S o k v = S := by
  unfold putI
  have e : up2 S.1 o k v = S.1 := by
    funext a b
    unfold up2
    by_cases hz : a = o ∧ b = k
    · rw [if_pos hz, hz.1, hz.2, h]
    · rw [if_neg hz]
  rw [e]
theorem putI_putI {S : sS} {o k : Nat} {v w : Int32} : putI (putI S o k v) o k w = putI S o k w := by
  unfold putI
  congr 1
  funext a b
  unfold up2
  by_cases hz : a = o ∧ b = k
  · simp [hz]
  · simp [hz]
theorem putA_putI {S : sS} {o k a i : Nat} {v w : Int32} : putA (putI S o k v) a i w = putI (putA S a i w) o k v := rfl

theorem d_Mod_isTitle_0 : decode b_Mod_isTitle 0 = .ok (.aload_n 0, 1) := by decide +kernel
theorem d_Mod_isTitle_1 : decode b_Mod_isTitle 1 = .ok (.getfield 16, 3) := by decide +kernel
theorem d_Mod_isTitle_4 : decode b_Mod_isTitle 4 = .ok (.iload_n 1, 1) := by decide +kernel
theorem d_Mod_isTitle_5 : decode b_Mod_isTitle 5 = .ok (.iaload, 1) := by decide +kernel
theorem d_Mod_isTitle_6 : decode b_Mod_isTitle 6 = .ok (.iload 4, 2) := by decide +kernel
theorem d_Mod_isTitle_8 : decode b_Mod_isTitle 8 = .ok (.if_icmp .ne 7, 3) := by decide +kernel
theorem d_Mod_isTitle_11 : decode b_Mod_isTitle 11 = .ok (.iconst 1, 1) := by decide +kernel
theorem d_Mod_isTitle_12 : decode b_Mod_isTitle 12 = .ok (.goto 4, 3) := by decide +kernel
theorem d_Mod_isTitle_15 : decode b_Mod_isTitle 15 = .ok (.iconst 0, 1) := by decide +kernel
theorem d_Mod_isTitle_16 : decode b_Mod_isTitle 16 = .ok (.istore 5, 2) := by decide +kernel
theorem d_Mod_isTitle_18 : decode b_Mod_isTitle 18 = .ok (.iconst 0, 1) := by decide +kernel
theorem d_Mod_isTitle_19 : decode b_Mod_isTitle 19 = .ok (.istore 6, 2) := by decide +kernel
theorem d_Mod_isTitle_21 : decode b_Mod_isTitle 21 = .ok (.iload 6, 2) := by decide +kernel
theorem d_Mod_isTitle_23 : decode b_Mod_isTitle 23 = .ok (.iload 4, 2) := by decide +kernel
theorem d_Mod_isTitle_25 : decode b_Mod_isTitle 25 = .ok (.if_icmp .ge 42, 3) := by decide +kernel
theorem d_Mod_isTitle_28 : decode b_Mod_isTitle 28 = .ok (.iload 5, 2) := by decide +kernel
theorem d_Mod_isTitle_30 : decode b_Mod_isTitle 30 = .ok (.ifCond .eq 37, 3) := by decide +kernel
theorem d_Mod_isTitle_33 : decode b_Mod_isTitle 33 = .ok (.aload_n 0, 1) := by decide +kernel
theorem d_Mod_isTitle_34 : decode b_Mod_isTitle 34 = .ok (.getfield 13, 3) := by decide +kernel
theorem d_Mod_isTitle_37 : decode b_Mod_isTitle 37 = .ok (.bipush 64, 2) := by decide +kernel
theorem d_Mod_isTitle_39 : decode b_Mod_isTitle 39 = .ok (.iload_n 1, 1) := by decide +kernel
theorem d_Mod_isTitle_40 : decode b_Mod_isTitle 40 = .ok (.imul, 1) := by decide +kernel
theorem d_Mod_isTitle_41 : decode b_Mod_isTitle 41 = .ok (.iload 6, 2) := by decide +kernel
theorem d_Mod_isTitle_43 : decode b_Mod_isTitle 43 = .ok (.iadd, 1) := by decide +kernel
theorem d_Mod_isTitle_44 : decode b_Mod_isTitle 44 = .ok (.baload, 1) := by decide +kernel
theorem d_Mod_isTitle_45 : decode b_Mod_isTitle 45 = .ok (.aload_n 2, 1) := by decide +kernel
theorem d_Mod_isTitle_46 : decode b_Mod_isTitle 46 = .ok (.iload_n 3, 1) := by decide +kernel
theorem d_Mod_isTitle_47 : decode b_Mod_isTitle 47 = .ok (.iload 6, 2) := by decide +kernel
theorem d_Mod_isTitle_49 : decode b_Mod_isTitle 49 = .ok (.iadd, 1) := by decide +kernel
theorem d_Mod_isTitle_50 : decode b_Mod_isTitle 50 = .ok (.baload, 1) := by decide +kernel
theorem d_Mod_isTitle_51 : decode b_Mod_isTitle 51 = .ok (.if_icmp .ne 7, 3) := by decide +kernel
theorem d_Mod_isTitle_54 : decode b_Mod_isTitle 54 = .ok (.iconst 1, 1) := by decide +kernel
theorem d_Mod_isTitle_55 : decode b_Mod_isTitle 55 = .ok (.goto 4, 3) := by decide +kernel
theorem d_Mod_isTitle_58 : decode b_Mod_isTitle 58 = .ok (.iconst 0, 1) := by decide +kernel
theorem d_Mod_isTitle_59 : decode b_Mod_isTitle 59 = .ok (.istore 5, 2) := by decide +kernel
theorem d_Mod_isTitle_61 : decode b_Mod_isTitle 61 = .ok (.iinc 6 1, 3) := by decide +kernel
theorem d_Mod_isTitle_64 : decode b_Mod_isTitle 64 = .ok (.goto (-43), 3) := by decide +kernel
theorem d_Mod_isTitle_67 : decode b_Mod_isTitle 67 = .ok (.iload 5, 2) := by decide +kernel
theorem d_Mod_isTitle_69 : decode b_Mod_isTitle 69 = .ok (.ireturn, 1) := by decide +kernel
set_option maxHeartbeats 4000000 in
set_option maxRecDepth 100000 in
theorem m_isTitle_loop {p : Program} {l : Launch} {e : Env} {R : Room} {s : State} {m : MethodId} {args : Array Value} {below : List Frame} {meth : Method} {c : Code} {cells slots : Nat} {Q : State → Prop} {g : gG} {A : Nat → Prop} {ad : Nat → Nat} (hx : p.tables.exec = Jvm.exec) (hb : c.code = b_Mod_isTitle) (hml : c.maxLocals = 7) (hown : s.vm.findClass "MacroMillModel" = some m.cls) (htt : ∀ w ∈ gt, w.before args s = true) (hK : va_K g.1 classes (tysG g) s) (hN : nw s) (hA : ∀ q : Nat, s.heap.size ≤ q → A q) (S : sS) (j : Nat) (n : Nat) (hj : j < 32) (hn : n ≤ 64)
    (kx_67 : ∀ (i : Nat) (d : Int32) (ls : Array Slot) (H : Heap) (locs : List Loc), i ≤ n → (d = 1 ∧ S.2.1 2 j = nI n ∧ (∀ k, k < i → S.2.1 1 (64 * j + k) = S.2.1 0 (0 + k)) ∨ d = 0 ∧ ¬ (S.2.1 2 j = nI n ∧ ∀ k, k < n → S.2.1 1 (64 * j + k) = S.2.1 0 (0 + k))) → (d = 1 ∧ (S.2.1 2 j = nI n ∧ ∀ k, k < n → S.2.1 1 (64 * j + k) = S.2.1 0 (0 + k)) ∨ d = 0 ∧ ¬ (S.2.1 2 j = nI n ∧ ∀ k, k < n → S.2.1 1 (64 * j + k) = S.2.1 0 (0 + k))) →  lv_has ls 7 [(6, .int (nI i)), (5, .int d), (0, .ref (ad 0)), (1, .int (nI j)), (2, .ref (ad 1)), (3, .int 0), (4, .int (nI n))] → va_P g.1 classes (Sw shM g ad S) H → va_D A (Sw shM g ad S) → va_S A s.heap H locs → W p l e R s m args below meth c H locs cells slots Q (F0 m 67 ls [])) :
    ∀ (k9 : Nat) (i : Nat) (d : Int32) (ls : Array Slot) (H : Heap) (locs : List Loc), n - i < k9 → i ≤ n → (d = 1 ∧ S.2.1 2 j = nI n ∧ (∀ k, k < i → S.2.1 1 (64 * j + k) = S.2.1 0 (0 + k)) ∨ d = 0 ∧ ¬ (S.2.1 2 j = nI n ∧ ∀ k, k < n → S.2.1 1 (64 * j + k) = S.2.1 0 (0 + k))) → lv_has ls 7 [(6, .int (nI i)), (5, .int d), (0, .ref (ad 0)), (1, .int (nI j)), (2, .ref (ad 1)), (3, .int 0), (4, .int (nI n))] → va_P g.1 classes (Sw shM g ad S) H → va_D A (Sw shM g ad S) → va_S A s.heap H locs → W p l e R s m args below meth c H locs cells slots Q (F0 m 21 ls []) := by
  intro k9
  induction k9 with
  | zero =>
    intro i d ls H locs hk9 hi hd hl hP hD hS
    exact absurd hk9 (Nat.not_lt_zero _)
  | succ k9 ih =>
    intro i d ls H locs hk9 hi hd hl hP hD hS
    refine lv_iload hx hb d_Mod_isTitle_21 (lv_at hl 0 rfl) ?_
    refine lv_iload hx hb d_Mod_isTitle_23 (lv_at hl 6 rfl) ?_
    refine lv_icmp_ge (tgt := 67) hx hb d_Mod_isTitle_25 (by decide) (fun h1 => ?_) (fun h1 => ?_)
    · have hfin : (d = 1 ∧ (S.2.1 2 j = nI n ∧ ∀ k, k < n → S.2.1 1 (64 * j + k) = S.2.1 0 (0 + k)) ∨ d = 0 ∧ ¬ (S.2.1 2 j = nI n ∧ ∀ k, k < n → S.2.1 1 (64 * j + k) = S.2.1 0 (0 + k))) := by
        have h2 := nI_le_of (by omega) (by omega) h1
        have e5 : i = n := by omega
        rw [e5] at hd
        exact hd
      exact kx_67 i d ls H locs hi hd hfin (lv_sub hl [0, 1, 2, 3, 4, 5, 6] rfl) hP hD hS
    · refine lv_iload hx hb d_Mod_isTitle_28 (lv_at hl 1 rfl) ?_
      refine lv_if_eq (tgt := 67) hx hb d_Mod_isTitle_30 (by decide) (fun h2 => ?_) (fun h2 => ?_)
      · have hfin : (d = 1 ∧ (S.2.1 2 j = nI n ∧ ∀ k, k < n → S.2.1 1 (64 * j + k) = S.2.1 0 (0 + k)) ∨ d = 0 ∧ ¬ (S.2.1 2 j = nI n ∧ ∀ k, k < n → S.2.1 1 (64 * j + k) = S.2.1 0 (0 + k))) := Or.inr ⟨h2, (hd.resolve_left (fun z => absurd (z.1.symm.trans h2) (by decide))).2⟩
        exact kx_67 i d ls H locs hi hd hfin (lv_sub hl [0, 1, 2, 3, 4, 5, 6] rfl) hP hD hS
      · have h3 : i < n := nI_lt_of (by omega) (by omega) h1
        have hd1 := hd.resolve_right (fun z => h2 z.1)
        refine lv_aload_n hx hb d_Mod_isTitle_33 rfl (lv_at hl 2 rfl) ?_
        refine S_getR (h := shM) (C := "MacroMillModel") (T := F_Mod) hx hb htt in_Mod hown hK hP 0 4 rfl 2 rfl rfl (by decide) (htt _ k_2240) (fun _ h9 => h9) d_Mod_isTitle_34 ?_
        refine lv_bipush (v := 64) hx hb d_Mod_isTitle_37 (by decide) ?_
        refine lv_iload_n hx hb d_Mod_isTitle_39 rfl (lv_at hl 3 rfl) ?_
        refine lv_imul hx hb d_Mod_isTitle_40 ?_
        refine toI (y := nI (64 * j)) (pk_mul 64 j) ?_
        refine lv_iload hx hb d_Mod_isTitle_41 (lv_at hl 0 rfl) ?_
        show W _ _ _ _ _ _ _ _ _ _ _ _ _ _ _ (F0 _ 43 _ _)
        refine lv_iadd hx hb d_Mod_isTitle_43 ?_
        refine toI (y := nI (64 * j + i)) (nI_add _ _) ?_
        refine S_bald (h := shM) (i := nI (64 * j + i)) hx hb hK hP 1 rfl (vp_in_nI (by omega) (by decide)) d_Mod_isTitle_44 ?_
        refine toI (y := S.2.1 1 (64 * j + i)) (by rw [nI_clamp (by omega)]) ?_
        refine lv_aload_n hx hb d_Mod_isTitle_45 rfl (lv_at hl 4 rfl) ?_
        refine lv_iload_n hx hb d_Mod_isTitle_46 rfl (lv_at hl 5 rfl) ?_
        refine lv_iload hx hb d_Mod_isTitle_47 (lv_at hl 0 rfl) ?_
        refine lv_iadd hx hb d_Mod_isTitle_49 ?_
        refine toI (y := nI (0 + i)) (nI_add 0 i) ?_
        refine S_bald (h := shM) (i := nI (0 + i)) hx hb hK hP 0 rfl (vp_in_nI (by omega) (by decide)) d_Mod_isTitle_50 ?_
        refine toI (y := S.2.1 0 (0 + i)) (by rw [nI_clamp (by omega)]) ?_
        refine lv_icmp_ne (tgt := 58) hx hb d_Mod_isTitle_51 (by decide) (fun h4 => ?_) (fun h4 => ?_)
        · refine lv_iconst (v := 0) hx hb d_Mod_isTitle_58 (by decide) ?_
          refine lv_istore (lv' := [(5, .int 0), (6, .int (nI i)), (0, .ref (ad 0)), (1, .int (nI j)), (2, .ref (ad 1)), (3, .int 0), (4, .int (nI n))]) hx hb d_Mod_isTitle_59 hl (by decide) rfl (fun ls hl => ?_)
          refine lv_iinc (k := 1) (v := nI (i + 1)) (lv' := [(6, .int (nI (i + 1))), (5, .int 0), (0, .ref (ad 0)), (1, .int (nI j)), (2, .ref (ad 1)), (3, .int 0), (4, .int (nI n))]) hx hb d_Mod_isTitle_61 hl rfl (nI_succ i).symm (by decide) rfl (fun ls hl => ?_)
          refine lv_goto (tgt := 21) hx hb d_Mod_isTitle_64 (by decide) ?_
          exact ih (i + 1) 0 ls H locs (by omega) (by omega) (Or.inr ⟨rfl, fun z => h4 (z.2 i h3)⟩) (lv_sub hl [0, 1, 2, 3, 4, 5, 6] rfl) hP hD hS
        · refine lv_iconst (v := 1) hx hb d_Mod_isTitle_54 (by decide) ?_
          refine lv_goto (tgt := 59) hx hb d_Mod_isTitle_55 (by decide) ?_
          refine lv_istore (lv' := [(5, .int 1), (6, .int (nI i)), (0, .ref (ad 0)), (1, .int (nI j)), (2, .ref (ad 1)), (3, .int 0), (4, .int (nI n))]) hx hb d_Mod_isTitle_59 hl (by decide) rfl (fun ls hl => ?_)
          refine lv_iinc (k := 1) (v := nI (i + 1)) (lv' := [(6, .int (nI (i + 1))), (5, .int 1), (0, .ref (ad 0)), (1, .int (nI j)), (2, .ref (ad 1)), (3, .int 0), (4, .int (nI n))]) hx hb d_Mod_isTitle_61 hl rfl (nI_succ i).symm (by decide) rfl (fun ls hl => ?_)
          show W _ _ _ _ _ _ _ _ _ _ _ _ _ _ _ (F0 _ 64 _ _)
          refine lv_goto (tgt := 21) hx hb d_Mod_isTitle_64 (by decide) ?_
          exact ih (i + 1) 1 ls H locs (by omega) (by omega) (Or.inl ⟨rfl, hd1.2.1, lt_s hd1.2.2 h4⟩) (lv_sub hl [0, 1, 2, 3, 4, 5, 6] rfl) hP hD hS
abbrev rm_m_isTitle : Room := { frames := 0, cells := 0, slots := 0, locals := 0 }
set_option maxHeartbeats 4000000 in
set_option maxRecDepth 100000 in
theorem m_isTitle (l : Launch) (g : gG) (sz : Nat) (ad : Nat → Nat) (S : sS) (j : Nat) (n : Nat) (hj : j < 32) (hn : n ≤ 64) : Cz l y_Mod_isTitle b_Mod_isTitle 7 rm_m_isTitle g [.ref (ad 0), .int (nI j), .ref (ad 1), .int 0, .int (nI n)] (Sw shM g ad S) sz (fun r w => ∃ S' : sS, w = Sw shM g ad S' ∧ S' = S ∧ (r = 1 ∧ (S.2.1 2 j = nI n ∧ ∀ k, k < n → S.2.1 1 (64 * j + k) = S.2.1 0 (0 + k)) ∨ r = 0 ∧ ¬ (S.2.1 2 j = nI n ∧ ∀ k, k < n → S.2.1 1 (64 * j + k) = S.2.1 0 (0 + k)))) := by
  refine startZ (by decide) (Nat.le_of_ble_eq_true rfl) ?_
  intro p e s m below meth c A ls hx hb hr hml hlocks hmn hown htt hN hA hP hK hD hS hl
  have hown : s.vm.findClass "MacroMillModel" = some m.cls := hown
  have hl : lv_has ls 7 [(0, .ref (ad 0)), (1, .int (nI j)), (2, .ref (ad 1)), (3, .int 0), (4, .int (nI n))] := hl
  refine lv_aload_n hx hb d_Mod_isTitle_0 rfl (lv_at hl 0 rfl) ?_
  refine S_getR (h := shM) (C := "MacroMillModel") (T := F_Mod) hx hb htt in_Mod hown hK hP 0 5 rfl 3 rfl rfl (by decide) (htt _ k_2241) (fun _ h9 => h9) d_Mod_isTitle_1 ?_
  refine lv_iload_n hx hb d_Mod_isTitle_4 rfl (lv_at hl 1 rfl) ?_
  refine S_iald (h := shM) (i := nI j) hx hb hK hP 2 rfl (vp_in_nI (by omega) (by decide)) d_Mod_isTitle_5 ?_
  refine toI (y := S.2.1 2 j) (by rw [nI_clamp (by omega)]) ?_
  refine lv_iload hx hb d_Mod_isTitle_6 (lv_at hl 4 rfl) ?_
  refine lv_icmp_ne (tgt := 15) hx hb d_Mod_isTitle_8 (by decide) (fun h5 => ?_) (fun h5 => ?_)
  · refine lv_iconst (v := 0) hx hb d_Mod_isTitle_15 (by decide) ?_
    refine lv_istore (lv' := [(5, .int 0), (0, .ref (ad 0)), (1, .int (nI j)), (2, .ref (ad 1)), (3, .int 0), (4, .int (nI n))]) hx hb d_Mod_isTitle_16 hl (by decide) rfl (fun ls hl => ?_)
    refine lv_iconst (v := 0) hx hb d_Mod_isTitle_18 (by decide) ?_
    refine lv_istore (lv' := [(6, .int 0), (5, .int 0), (0, .ref (ad 0)), (1, .int (nI j)), (2, .ref (ad 1)), (3, .int 0), (4, .int (nI n))]) hx hb d_Mod_isTitle_19 hl (by decide) rfl (fun ls hl => ?_)
    refine m_isTitle_loop hx hb hml hown htt hK hN hA S j n hj hn (fun i2 d2 ls H locs hi2 hd2 hz0 hl hP hD hS => ?_) (n - 0 + 1) 0 0 ls _ _ (by omega) (Nat.zero_le _) (Or.inr ⟨rfl, fun z => h5 z.1⟩) (lv_sub hl [0, 1, 2, 3, 4, 5, 6] rfl) hP hD hS
    show W _ _ _ _ _ _ _ _ _ _ _ _ _ _ _ (F0 _ 67 _ _)
    refine lv_iload hx hb d_Mod_isTitle_67 (lv_at hl 1 rfl) ?_
    exact fin_z (g := g) (ws := Sw shM g ad S) (v := d2) hx hb hr hlocks (by rcases hz0 with h9 | h9 <;> rw [h9.1] <;> rfl) (by decide +kernel) (by decide +kernel) hP hD hS ⟨S, rfl, rfl, hz0⟩ d_Mod_isTitle_69
  · refine lv_iconst (v := 1) hx hb d_Mod_isTitle_11 (by decide) ?_
    refine lv_goto (tgt := 16) hx hb d_Mod_isTitle_12 (by decide) ?_
    refine lv_istore (lv' := [(5, .int 1), (0, .ref (ad 0)), (1, .int (nI j)), (2, .ref (ad 1)), (3, .int 0), (4, .int (nI n))]) hx hb d_Mod_isTitle_16 hl (by decide) rfl (fun ls hl => ?_)
    refine lv_iconst (v := 0) hx hb d_Mod_isTitle_18 (by decide) ?_
    refine lv_istore (lv' := [(6, .int 0), (5, .int 1), (0, .ref (ad 0)), (1, .int (nI j)), (2, .ref (ad 1)), (3, .int 0), (4, .int (nI n))]) hx hb d_Mod_isTitle_19 hl (by decide) rfl (fun ls hl => ?_)
    show W _ _ _ _ _ _ _ _ _ _ _ _ _ _ _ (F0 _ 21 _ _)
    refine m_isTitle_loop hx hb hml hown htt hK hN hA S j n hj hn (fun i2 d2 ls H locs hi2 hd2 hz0 hl hP hD hS => ?_) (n - 0 + 1) 0 1 ls _ _ (by omega) (Nat.zero_le _) (Or.inl ⟨rfl, h5, fun k h9 => absurd h9 (Nat.not_lt_zero k)⟩) (lv_sub hl [0, 1, 2, 3, 4, 5, 6] rfl) hP hD hS
    refine lv_iload hx hb d_Mod_isTitle_67 (lv_at hl 1 rfl) ?_
    exact fin_z (g := g) (ws := Sw shM g ad S) (v := d2) hx hb hr hlocks (by rcases hz0 with h9 | h9 <;> rw [h9.1] <;> rfl) (by decide +kernel) (by decide +kernel) hP hD hS ⟨S, rfl, rfl, hz0⟩ d_Mod_isTitle_69

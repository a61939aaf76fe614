theorem putA_setF {S : sS} {a i : Nat} {f : Nat → Int32} {v : Int32} : putA (setF S a f) a i v = setF S a (upd f i v) := by
  unfold putA setF
  congr 2
  funext b j
  unfold up2 upd
  by_cases hb : b = a
  · subst hb
    by_cases hj : j = i
    · simp [hj]
    · simp [hj]
  · simp [hb]
/-- the bytes of file j grow by len bytes of the tape; b: where the last file ends, e: where file j ends -/
def appF (S : sS) (e b len : Nat) : sS := setF (setF S 1 (va_cpy (S.2.1 1) (S.2.1 1) e (e + len) (b - e))) 1 (va_cpy (S.2.1 0) (va_cpy (S.2.1 1) (S.2.1 1) e (e + len) (b - e)) 0 e len)

theorem d_Files_append_0 : decode b_Files_append 0 = .ok (.aload_n 0, 1) := by decide +kernel
theorem d_Files_append_1 : decode b_Files_append 1 = .ok (.getfield 23, 3) := by decide +kernel
theorem d_Files_append_4 : decode b_Files_append 4 = .ok (.aload_n 0, 1) := by decide +kernel
theorem d_Files_append_5 : decode b_Files_append 5 = .ok (.getfield 26, 3) := by decide +kernel
theorem d_Files_append_8 : decode b_Files_append 8 = .ok (.iaload, 1) := by decide +kernel
theorem d_Files_append_9 : decode b_Files_append 9 = .ok (.iload_n 3, 1) := by decide +kernel
theorem d_Files_append_10 : decode b_Files_append 10 = .ok (.iadd, 1) := by decide +kernel
theorem d_Files_append_11 : decode b_Files_append 11 = .ok (.ldc 11, 2) := by decide +kernel
theorem d_Files_append_13 : decode b_Files_append 13 = .ok (.if_icmp .le 5, 3) := by decide +kernel
theorem d_Files_append_16 : decode b_Files_append 16 = .ok (.iconst 0, 1) := by decide +kernel
theorem d_Files_append_17 : decode b_Files_append 17 = .ok (.ireturn, 1) := by decide +kernel
theorem d_Files_append_18 : decode b_Files_append 18 = .ok (.aload_n 0, 1) := by decide +kernel
theorem d_Files_append_19 : decode b_Files_append 19 = .ok (.getfield 23, 3) := by decide +kernel
theorem d_Files_append_22 : decode b_Files_append 22 = .ok (.iload_n 1, 1) := by decide +kernel
theorem d_Files_append_23 : decode b_Files_append 23 = .ok (.iconst 1, 1) := by decide +kernel
theorem d_Files_append_24 : decode b_Files_append 24 = .ok (.iadd, 1) := by decide +kernel
theorem d_Files_append_25 : decode b_Files_append 25 = .ok (.iaload, 1) := by decide +kernel
theorem d_Files_append_26 : decode b_Files_append 26 = .ok (.istore 4, 2) := by decide +kernel
theorem d_Files_append_28 : decode b_Files_append 28 = .ok (.aload_n 0, 1) := by decide +kernel
theorem d_Files_append_29 : decode b_Files_append 29 = .ok (.getfield 12, 3) := by decide +kernel
theorem d_Files_append_32 : decode b_Files_append 32 = .ok (.iload 4, 2) := by decide +kernel
theorem d_Files_append_34 : decode b_Files_append 34 = .ok (.aload_n 0, 1) := by decide +kernel
theorem d_Files_append_35 : decode b_Files_append 35 = .ok (.getfield 12, 3) := by decide +kernel
theorem d_Files_append_38 : decode b_Files_append 38 = .ok (.iload 4, 2) := by decide +kernel
theorem d_Files_append_40 : decode b_Files_append 40 = .ok (.iload_n 3, 1) := by decide +kernel
theorem d_Files_append_41 : decode b_Files_append 41 = .ok (.iadd, 1) := by decide +kernel
theorem d_Files_append_42 : decode b_Files_append 42 = .ok (.aload_n 0, 1) := by decide +kernel
theorem d_Files_append_43 : decode b_Files_append 43 = .ok (.getfield 23, 3) := by decide +kernel
theorem d_Files_append_46 : decode b_Files_append 46 = .ok (.aload_n 0, 1) := by decide +kernel
theorem d_Files_append_47 : decode b_Files_append 47 = .ok (.getfield 26, 3) := by decide +kernel
theorem d_Files_append_50 : decode b_Files_append 50 = .ok (.iaload, 1) := by decide +kernel
theorem d_Files_append_51 : decode b_Files_append 51 = .ok (.iload 4, 2) := by decide +kernel
theorem d_Files_append_53 : decode b_Files_append 53 = .ok (.isub, 1) := by decide +kernel
theorem d_Files_append_54 : decode b_Files_append 54 = .ok (.invokestatic 34, 3) := by decide +kernel
theorem d_Files_append_57 : decode b_Files_append 57 = .ok (.aload_n 2, 1) := by decide +kernel
theorem d_Files_append_58 : decode b_Files_append 58 = .ok (.iconst 0, 1) := by decide +kernel
theorem d_Files_append_59 : decode b_Files_append 59 = .ok (.aload_n 0, 1) := by decide +kernel
theorem d_Files_append_60 : decode b_Files_append 60 = .ok (.getfield 12, 3) := by decide +kernel
theorem d_Files_append_63 : decode b_Files_append 63 = .ok (.iload 4, 2) := by decide +kernel
theorem d_Files_append_65 : decode b_Files_append 65 = .ok (.iload_n 3, 1) := by decide +kernel
theorem d_Files_append_66 : decode b_Files_append 66 = .ok (.invokestatic 34, 3) := by decide +kernel
theorem d_Files_append_69 : decode b_Files_append 69 = .ok (.iload_n 1, 1) := by decide +kernel
theorem d_Files_append_70 : decode b_Files_append 70 = .ok (.iconst 1, 1) := by decide +kernel
theorem d_Files_append_71 : decode b_Files_append 71 = .ok (.iadd, 1) := by decide +kernel
theorem d_Files_append_72 : decode b_Files_append 72 = .ok (.istore 5, 2) := by decide +kernel
theorem d_Files_append_74 : decode b_Files_append 74 = .ok (.iload 5, 2) := by decide +kernel
theorem d_Files_append_76 : decode b_Files_append 76 = .ok (.aload_n 0, 1) := by decide +kernel
theorem d_Files_append_77 : decode b_Files_append 77 = .ok (.getfield 26, 3) := by decide +kernel
theorem d_Files_append_80 : decode b_Files_append 80 = .ok (.if_icmp .gt 20, 3) := by decide +kernel
theorem d_Files_append_83 : decode b_Files_append 83 = .ok (.aload_n 0, 1) := by decide +kernel
theorem d_Files_append_84 : decode b_Files_append 84 = .ok (.getfield 23, 3) := by decide +kernel
theorem d_Files_append_87 : decode b_Files_append 87 = .ok (.iload 5, 2) := by decide +kernel
theorem d_Files_append_89 : decode b_Files_append 89 = .ok (.dup2, 1) := by decide +kernel
theorem d_Files_append_90 : decode b_Files_append 90 = .ok (.iaload, 1) := by decide +kernel
theorem d_Files_append_91 : decode b_Files_append 91 = .ok (.iload_n 3, 1) := by decide +kernel
theorem d_Files_append_92 : decode b_Files_append 92 = .ok (.iadd, 1) := by decide +kernel
theorem d_Files_append_93 : decode b_Files_append 93 = .ok (.iastore, 1) := by decide +kernel
theorem d_Files_append_94 : decode b_Files_append 94 = .ok (.iinc 5 1, 3) := by decide +kernel
theorem d_Files_append_97 : decode b_Files_append 97 = .ok (.goto (-23), 3) := by decide +kernel
theorem d_Files_append_100 : decode b_Files_append 100 = .ok (.iconst 1, 1) := by decide +kernel
theorem d_Files_append_101 : decode b_Files_append 101 = .ok (.ireturn, 1) := by decide +kernel
set_option maxHeartbeats 4000000 in
set_option maxRecDepth 100000 in
theorem c_append_loop {p : Program} {l : Launch} {e : Env} {R : Room} {s : State} {m : MethodId} {args : Array Value} {below : List Frame} {meth : Method} {c : Code} {cells slots : Nat} {Q : State → Prop} {g : gG} {A : Nat → Prop} {ad : Nat → Nat} (hx : p.tables.exec = Jvm.exec) (hb : c.code = b_Files_append) (hml : c.maxLocals = 6) (hown : s.vm.findClass "MacroMill$Files" = some m.cls) (htt : ∀ w ∈ gt, w.before args s = true) (hK : va_K g.1 classes (tysG g) s) (hN : nw s) (hA : ∀ q : Nat, s.heap.size ≤ q → A q) (S0 : sS) (st : Nat → Nat) (cnt : Nat) (j : Nat) (e0 : Nat) (len : Nat) (hc : S0.1 1 4 = nI cnt) (hc2 : cnt ≤ 32)
    (kx_100 : ∀ (i : Nat) (f4 : Nat → Int32) (ls : Array Slot) (H : Heap) (locs : List Loc), j < i → i ≤ cnt + 1 → (∀ k, k ≤ cnt → f4 k = nI (if j < k ∧ k < i then st k + len else st k)) → cnt < i →  lv_has ls 6 [(5, .int (nI i)), (4, .int (nI e0)), (0, .ref (ad 1)), (1, .int (nI j)), (2, .ref (ad 13)), (3, .int (nI len))] → va_P g.1 classes (Sw shC g ad (setF S0 4 f4)) H → va_D A (Sw shC g ad (setF S0 4 f4)) → va_S A s.heap H locs → W p l e R s m args below meth c H locs cells slots Q (F0 m 100 ls [])) :
    ∀ (k9 : Nat) (i : Nat) (f4 : Nat → Int32) (ls : Array Slot) (H : Heap) (locs : List Loc), cnt + 1 - i < k9 → j < i → i ≤ cnt + 1 → (∀ k, k ≤ cnt → f4 k = nI (if j < k ∧ k < i then st k + len else st k)) → lv_has ls 6 [(5, .int (nI i)), (4, .int (nI e0)), (0, .ref (ad 1)), (1, .int (nI j)), (2, .ref (ad 13)), (3, .int (nI len))] → va_P g.1 classes (Sw shC g ad (setF S0 4 f4)) H → va_D A (Sw shC g ad (setF S0 4 f4)) → va_S A s.heap H locs → W p l e R s m args below meth c H locs cells slots Q (F0 m 74 ls []) := by
  intro k9
  induction k9 with
  | zero =>
    intro i f4 ls H locs hk9 hi hi2 hg hl hP hD hS
    exact absurd hk9 (Nat.not_lt_zero _)
  | succ k9 ih =>
    intro i f4 ls H locs hk9 hi hi2 hg hl hP hD hS
    refine lv_iload hx hb d_Files_append_74 (lv_at hl 0 rfl) ?_
    refine lv_aload_n hx hb d_Files_append_76 rfl (lv_at hl 2 rfl) ?_
    refine S_getI (h := shC) (C := "MacroMill$Files") (T := F_Files) hx hb htt in_Files hown hK hP 1 4 rfl rfl rfl (by decide) (htt _ k_311) (fun _ h9 => h9) d_Files_append_77 ?_
    refine toI (y := nI cnt) hc ?_
    refine lv_icmp_gt (tgt := 100) hx hb d_Files_append_80 (by decide) (fun h1 => ?_) (fun h1 => ?_)
    · exact kx_100 i f4 ls H locs hi hi2 hg ((nI_ltI (by omega) (by omega)).mp h1) (lv_sub hl [0, 1, 2, 3, 4, 5] rfl) hP hD hS
    · have h3 : i ≤ cnt := Nat.not_lt.mp (fun z => h1 (nI_lt z (by omega)))
      refine lv_aload_n hx hb d_Files_append_83 rfl (lv_at hl 2 rfl) ?_
      refine S_getR (h := shC) (C := "MacroMill$Files") (T := F_Files) hx hb htt in_Files hown hK hP 1 3 rfl 17 rfl rfl (by decide) (htt _ k_308) (fun _ h9 => h9) d_Files_append_84 ?_
      refine lv_iload hx hb d_Files_append_87 (lv_at hl 0 rfl) ?_
      refine lv_dup2_11 hx hb d_Files_append_89 rfl rfl ?_
      refine S_iald (h := shC) (i := nI i) hx hb hK hP 4 rfl (vp_in_nI (by omega) (by decide)) d_Files_append_90 ?_
      refine toI (y := nI (st i)) (by rw [nI_clamp (by omega)]; show f4 i = _; rw [hg i h3, if_neg (fun z => Nat.lt_irrefl _ z.2)]) ?_
      refine lv_iload_n hx hb d_Files_append_91 rfl (lv_at hl 5 rfl) ?_
      refine lv_iadd hx hb d_Files_append_92 ?_
      refine toI (y := nI (st i + len)) (nI_add _ _) ?_
      show W _ _ _ _ _ _ _ _ _ _ _ _ _ _ _ (F0 _ 93 _ _)
      refine S_iast (h := shC) (i := nI i) (v := nI (st i + len)) hx hb hK hP hD hS 4 rfl (vp_in_nI (by omega) (by decide)) d_Files_append_93 (fun H locs hP hD hS => ?_)
      rw [nI_clamp (by omega), putA_setF] at hP hD
      refine lv_iinc (k := 0) (v := nI (i + 1)) (lv' := [(5, .int (nI (i + 1))), (4, .int (nI e0)), (0, .ref (ad 1)), (1, .int (nI j)), (2, .ref (ad 13)), (3, .int (nI len))]) hx hb d_Files_append_94 hl rfl (nI_succ i).symm (by decide) rfl (fun ls hl => ?_)
      refine lv_goto (tgt := 74) hx hb d_Files_append_97 (by decide) ?_
      exact ih (i + 1) (upd f4 i (nI (st i + len))) ls H locs (by omega) (by omega) (by omega) (fun k hk => by
        unfold upd
        by_cases hki : k = i
        · subst hki
          rw [if_pos rfl, if_pos ⟨hi, Nat.lt_succ_self _⟩]
        · rw [if_neg hki, hg k hk]
          congr 1
          by_cases hz : j < k ∧ k < i
          · rw [if_pos hz, if_pos ⟨hz.1, by omega⟩]
          · rw [if_neg hz, if_neg (fun z => hz ⟨z.1, by omega⟩)]) (lv_sub hl [0, 1, 2, 3, 4, 5] rfl) hP hD hS
abbrev rm_c_append : Room := { frames := 1, cells := 0, slots := 0, locals := 18 }
set_option maxHeartbeats 4000000 in
set_option maxRecDepth 100000 in
theorem c_append (l : Launch) (g : gG) (sz : Nat) (ad : Nat → Nat) (S : sS) (st : Nat → Nat) (cnt : Nat) (j : Nat) (len : Nat) (hc : S.1 1 4 = nI cnt) (hc2 : cnt ≤ 32) (hj : j < cnt) (hst : ∀ i, i ≤ cnt → S.2.1 4 i = nI (st i)) (hm : st (j + 1) ≤ st cnt) (hb2 : st cnt ≤ 32768) (hl2 : len ≤ 16384) (hf : ∀ i, fits .byte (.int (S.2.1 0 i)) = true) (hfb : ∀ i, fits .byte (.int (S.2.1 1 i)) = true) : Cz l y_Files_append b_Files_append 6 rm_c_append g [.ref (ad 1), .int (nI j), .ref (ad 13), .int (nI len)] (Sw shC g ad S) sz (fun r w => ∃ S' : sS, w = Sw shC g ad S' ∧ (r = 0 ∧ S' = S ∧ 32768 < st cnt + len ∨ r = 1 ∧ st cnt + len ≤ 32768 ∧ ∃ f4 : Nat → Int32, S' = setF (appF S (st (j + 1)) (st cnt) len) 4 f4 ∧ ∀ k, k ≤ cnt → f4 k = nI (if j < k then st k + len else st k))) := by
  refine startZ (by decide) (Nat.le_of_ble_eq_true rfl) ?_
  intro p e s m below meth c A ls hx hb hr hml hlocks hmn hown htt hN hA hP hK hD hS hl
  have hown : s.vm.findClass "MacroMill$Files" = some m.cls := hown
  have hl : lv_has ls 6 [(0, .ref (ad 1)), (1, .int (nI j)), (2, .ref (ad 13)), (3, .int (nI len))] := hl
  refine lv_aload_n hx hb d_Files_append_0 rfl (lv_at hl 0 rfl) ?_
  refine S_getR (h := shC) (C := "MacroMill$Files") (T := F_Files) hx hb htt in_Files hown hK hP 1 3 rfl 17 rfl rfl (by decide) (htt _ k_308) (fun _ h9 => h9) d_Files_append_1 ?_
  refine lv_aload_n hx hb d_Files_append_4 rfl (lv_at hl 0 rfl) ?_
  refine S_getI (h := shC) (C := "MacroMill$Files") (T := F_Files) hx hb htt in_Files hown hK hP 1 4 rfl rfl rfl (by decide) (htt _ k_311) (fun _ h9 => h9) d_Files_append_5 ?_
  refine toI (y := nI cnt) hc ?_
  refine S_iald (h := shC) (i := nI cnt) hx hb hK hP 4 rfl (vp_in_nI (by omega) (by decide)) d_Files_append_8 ?_
  refine toI (y := nI (st cnt)) (by rw [nI_clamp (by omega)]; exact hst cnt (Nat.le_refl _)) ?_
  refine lv_iload_n hx hb d_Files_append_9 rfl (lv_at hl 3 rfl) ?_
  refine lv_iadd hx hb d_Files_append_10 ?_
  refine toI (y := nI (st cnt + len)) (nI_add _ _) ?_
  refine lv_ldc (v := 32768) hx hb hown (htt _ k_300) d_Files_append_11 ?_
  refine lv_icmp_le (tgt := 18) hx hb d_Files_append_13 (by decide) (fun h2 => ?_) (fun h2 => ?_)
  · have h4 : st cnt + len ≤ 32768 := nI_le_of (b := 32768) (by omega) (by decide) h2
    refine lv_aload_n hx hb d_Files_append_18 rfl (lv_at hl 0 rfl) ?_
    refine S_getR (h := shC) (C := "MacroMill$Files") (T := F_Files) hx hb htt in_Files hown hK hP 1 3 rfl 17 rfl rfl (by decide) (htt _ k_308) (fun _ h9 => h9) d_Files_append_19 ?_
    show W _ _ _ _ _ _ _ _ _ _ _ _ _ _ _ (F0 _ 22 _ _)
    refine lv_iload_n hx hb d_Files_append_22 rfl (lv_at hl 1 rfl) ?_
    refine lv_iconst (v := 1) hx hb d_Files_append_23 (by decide) ?_
    refine lv_iadd hx hb d_Files_append_24 ?_
    refine toI (y := nI (j + 1)) (nI_1 j) ?_
    refine S_iald (h := shC) (i := nI (j + 1)) hx hb hK hP 4 rfl (vp_in_nI (by omega) (by decide)) d_Files_append_25 ?_
    refine toI (y := nI (st (j + 1))) (by rw [nI_clamp (by omega)]; exact hst (j + 1) (by omega)) ?_
    refine lv_istore (lv' := [(4, .int (nI (st (j + 1)))), (0, .ref (ad 1)), (1, .int (nI j)), (2, .ref (ad 13)), (3, .int (nI len))]) hx hb d_Files_append_26 hl (by decide) rfl (fun ls hl => ?_)
    refine lv_aload_n hx hb d_Files_append_28 rfl (lv_at hl 1 rfl) ?_
    refine S_getR (h := shC) (C := "MacroMill$Files") (T := F_Files) hx hb htt in_Files hown hK hP 1 0 rfl 14 rfl rfl (by decide) (htt _ k_301) (fun _ h9 => h9) d_Files_append_29 ?_
    refine lv_iload hx hb d_Files_append_32 (lv_at hl 0 rfl) ?_
    refine lv_aload_n hx hb d_Files_append_34 rfl (lv_at hl 1 rfl) ?_
    refine S_getR (h := shC) (C := "MacroMill$Files") (T := F_Files) hx hb htt in_Files hown hK hP 1 0 rfl 14 rfl rfl (by decide) (htt _ k_301) (fun _ h9 => h9) d_Files_append_35 ?_
    refine lv_iload hx hb d_Files_append_38 (lv_at hl 0 rfl) ?_
    refine lv_iload_n hx hb d_Files_append_40 rfl (lv_at hl 4 rfl) ?_
    show W _ _ _ _ _ _ _ _ _ _ _ _ _ _ _ (F0 _ 41 _ _)
    refine lv_iadd hx hb d_Files_append_41 ?_
    refine toI (y := nI (st (j + 1) + len)) (nI_add _ _) ?_
    refine lv_aload_n hx hb d_Files_append_42 rfl (lv_at hl 1 rfl) ?_
    refine S_getR (h := shC) (C := "MacroMill$Files") (T := F_Files) hx hb htt in_Files hown hK hP 1 3 rfl 17 rfl rfl (by decide) (htt _ k_308) (fun _ h9 => h9) d_Files_append_43 ?_
    refine lv_aload_n hx hb d_Files_append_46 rfl (lv_at hl 1 rfl) ?_
    refine S_getI (h := shC) (C := "MacroMill$Files") (T := F_Files) hx hb htt in_Files hown hK hP 1 4 rfl rfl rfl (by decide) (htt _ k_311) (fun _ h9 => h9) d_Files_append_47 ?_
    refine toI (y := nI cnt) hc ?_
    refine S_iald (h := shC) (i := nI cnt) hx hb hK hP 4 rfl (vp_in_nI (by omega) (by decide)) d_Files_append_50 ?_
    refine toI (y := nI (st cnt)) (by rw [nI_clamp (by omega)]; exact hst cnt (Nat.le_refl _)) ?_
    refine lv_iload hx hb d_Files_append_51 (lv_at hl 0 rfl) ?_
    refine lv_isub hx hb d_Files_append_53 ?_
    refine toI (y := nI (st cnt - st (j + 1))) (pk_sub (by omega)) ?_
    refine S_copyB (h := shC) (sp := st (j + 1)) (dp := st (j + 1) + len) (n := st cnt - st (j + 1)) hx hb (hml.trans hl.1.symm) htt hown k_1017 k_1019 k_1018 k_277 hK hP hD hS 1 1 rfl rfl (by decide) (by decide) (by omega) (by omega) (fun i _ => hfb _) (by decide +kernel) (by decide +kernel) d_Files_append_54 (fun H locs hP hD hS => ?_)
    refine lv_aload_n hx hb d_Files_append_57 rfl (lv_at hl 3 rfl) ?_
    refine lv_iconst (v := 0) hx hb d_Files_append_58 (by decide) ?_
    refine lv_aload_n hx hb d_Files_append_59 rfl (lv_at hl 1 rfl) ?_
    show W _ _ _ _ _ _ _ _ _ _ _ _ _ _ _ (F0 _ 60 _ _)
    refine S_getR (h := shC) (C := "MacroMill$Files") (T := F_Files) hx hb htt in_Files hown hK hP 1 0 rfl 14 rfl rfl (by decide) (htt _ k_301) (fun _ h9 => h9) d_Files_append_60 ?_
    refine lv_iload hx hb d_Files_append_63 (lv_at hl 0 rfl) ?_
    refine lv_iload_n hx hb d_Files_append_65 rfl (lv_at hl 4 rfl) ?_
    refine S_copyB (h := shC) (sp := 0) (dp := st (j + 1)) (n := len) hx hb (hml.trans hl.1.symm) htt hown k_1017 k_1019 k_1018 k_277 hK hP hD hS 0 1 rfl rfl (by decide) (by decide) (by omega) (by omega) (fun i _ => hf _) (by decide +kernel) (by decide +kernel) d_Files_append_66 (fun H locs hP hD hS => ?_)
    refine lv_iload_n hx hb d_Files_append_69 rfl (lv_at hl 2 rfl) ?_
    refine lv_iconst (v := 1) hx hb d_Files_append_70 (by decide) ?_
    refine lv_iadd hx hb d_Files_append_71 ?_
    refine toI (y := nI (j + 1)) (nI_1 j) ?_
    refine lv_istore (lv' := [(5, .int (nI (j + 1))), (4, .int (nI (st (j + 1)))), (0, .ref (ad 1)), (1, .int (nI j)), (2, .ref (ad 13)), (3, .int (nI len))]) hx hb d_Files_append_72 hl (by decide) rfl (fun ls hl => ?_)
    have e7 : appF S (st (j + 1)) (st cnt) len = setF (appF S (st (j + 1)) (st cnt) len) 4 (S.2.1 4) := by
      unfold appF setF
      congr 2
      funext b7
      by_cases h7 : b7 = 4
      · subst h7; rfl
      · simp [h7]
    change va_P g.1 classes (Sw shC g ad (appF S (st (j + 1)) (st cnt) len)) _ at hP
    change va_D A (Sw shC g ad (appF S (st (j + 1)) (st cnt) len)) at hD
    rw [e7] at hP hD
    refine c_append_loop hx hb hml hown htt hK hN hA (appF S (st (j + 1)) (st cnt) len) st cnt j (st (j + 1)) len hc hc2 (fun i2 f42 ls H locs hi2 hi22 hg2 hz0 hl hP hD hS => ?_) (cnt + 1 - (j + 1) + 1) (j + 1) (S.2.1 4) ls _ _ (by omega) (Nat.lt_succ_self _) (by omega) (fun k hk => by rw [hst k hk, if_neg (fun z => by omega)]) (lv_sub hl [0, 1, 2, 3, 4, 5] rfl) hP hD hS
    have hfin : ∀ k, k ≤ cnt → f42 k = nI (if j < k then st k + len else st k) := by
      intro k hk
      rw [hg2 k hk]
      congr 1
      by_cases hz : j < k
      · rw [if_pos ⟨hz, by omega⟩, if_pos hz]
      · rw [if_neg (fun z => hz z.1), if_neg hz]
    refine lv_iconst (v := 1) hx hb d_Files_append_100 (by decide) ?_
    exact fin_z (g := g) (ws := Sw shC g ad (setF (appF S (st (j + 1)) (st cnt) len) 4 f42)) (v := 1) hx hb hr hlocks rfl (by decide +kernel) (by decide +kernel) hP hD hS ⟨_, rfl, Or.inr ⟨rfl, h4, f42, rfl, hfin⟩⟩ d_Files_append_101
  · have h4 : 32768 < st cnt + len := nI_lt_of (a := 32768) (by decide) (by omega) h2
    refine lv_iconst (v := 0) hx hb d_Files_append_16 (by decide) ?_
    exact fin_z (g := g) (ws := Sw shC g ad S) (v := 0) hx hb hr hlocks rfl (by decide +kernel) (by decide +kernel) hP hD hS ⟨S, rfl, Or.inl ⟨rfl, rfl, h4⟩⟩ d_Files_append_17

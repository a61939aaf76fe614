/-! THE CLAIM OUT OF ONE WALK OF THE LAW'S BODY. Your part is whole_start (and what it stands on); all else here is the same for every law, but numbers. -/
def R_law : String := "MacroMillLaw"
def lw_P (b : Addr) (xs : List Int32) (args : Array Value) (s : State) : Prop := args = #[.ref b] ∧ s.IntsAt b xs ∧ xs.length ≤ 6 ∧ (Jvm.Cond.and given_1 narrow_1).before args s = true
def lw_Q (_ : Array Value) (s : State) (o : Outcome) (t : State) : Prop := o = .returned (some (.int 1)) ∧ Framed s o t [] 77608 8869426
def lw_Z (below : List Frame) (a : Array Value) (s : State) : State → Prop := fun t => ∃ o, t.status = .running ∧ Ended t below o ∧ lw_Q a s o t
/-- the law's own end, with 1 on the stack, nothing written that was there before, its room as the claim has it -/
theorem lw_ret {p : Program} {l : Launch} {e : Env} {s : State} {m : MethodId} {below : List Frame} {meth : Method} {c : Code} {b : Nat} (hx : p.tables.exec = Jvm.exec) (hb : c.code = code) (hr : meth.sig.returnType = ret) (hlocks : meth.locks = false) {pc : Nat} {H : Heap} {ls : Array Slot} (hdg : decode code pc = .ok (.ireturn, 1)) : W p l e room_1 s m #[Value.ref b] below meth c H [] 77608 8869426 (lw_Z below #[Value.ref b] s) (F0 m pc ls [.int 1]) := by
  intro T hT X
  obtain ⟨fs, hret, hrun, hended, hW, hframe⟩ := X.leave (v := some (.int 1)) (hlocks := hlocks) (fun h => by rw [hr] at h; cases h)
  have hmeth' : T.vm.method? m = some meth := X.method'
  refine ⟨T.setFrames fs, ?_, .returned (some (.int 1)), hrun, hended, rfl, ⟨_, rfl⟩, hW, hframe⟩
  jvm_step X.here [X.here.top, hx, hb, hdg, hmeth', hr, ret, narrow_b1]
  (try refine ⟨rfl, ?_⟩); (try refine ⟨rfl, ?_⟩)
  first | (intro acts; rw [hret _ acts rfl rfl rfl]) | rw [hret _ _ rfl rfl rfl]
  exact Steps.refl _
/-- what holds at the law's entry: the machine, the code, the tables' words (any of lw_tbl by 'hts w (by decide +kernel)'), the script of L ints xs at the cell b, what the Statement gives of the start (any of its parts by flat_of_before) -/
def lw_At (p : Program) (s : State) (m : MethodId) (meth : Method) (c : Code) (b L : Nat) (xs : Nat → Int32) : Prop :=
  p.tables.exec = Jvm.exec ∧ c.code = code ∧ meth.sig.returnType = ret ∧ c.maxLocals = 4 ∧ s.vm.findClass R_law = some m.cls ∧ (∀ w ∈ lw_tbl, w.before #[Value.ref b] s = true) ∧ va_X b L xs s s.heap ∧ b < s.heap.size ∧ meth.locks = false ∧ (Jvm.Cond.and given_1 narrow_1).before #[Value.ref b] s = true
theorem nw_of {args : Array Value} {s : State} (hts : ∀ w ∈ lw_tbl, w.before args s = true) : nw s := ⟨fun q hq => va_Nw.of rfl (hts _ (nestF_in q hq)), fun q hq => va_Nw.of rfl (hts _ (nestM_in q hq))⟩
theorem K_of {args : Array Value} {s : State} (htt : ∀ w ∈ gt, w.before args s = true) : ∃ g : gG, va_K g.1 classes (tysG g) s := by
  obtain ⟨c0, i0, h0⟩ := u_known htt in_MM (htt _ k_364)
  obtain ⟨c1, i1, h1⟩ := u_known htt in_Files (htt _ k_206)
  obtain ⟨c2, i2, h2⟩ := u_known htt in_Outcome (htt _ k_212)
  obtain ⟨c3, i3, h3⟩ := u_known htt in_Reckoner (htt _ k_218)
  obtain ⟨c4, i4, h4⟩ := u_known htt in_First (htt _ k_223)
  obtain ⟨c5, i5, h5⟩ := u_known htt in_Input (htt _ k_65)
  obtain ⟨c6, i6, h6⟩ := u_known htt in_Calls (htt _ k_45)
  obtain ⟨c7, i7, h7⟩ := u_known htt in_Meanings (htt _ k_51)
  obtain ⟨c8, i8, h8⟩ := u_known htt in_Second (htt _ k_230)
  obtain ⟨c9, i9, h9⟩ := u_known htt in_Tokens (htt _ k_169)
  obtain ⟨c10, i10, h10⟩ := u_known htt in_Macros (htt _ k_174)
  obtain ⟨c11, i11, h11⟩ := u_known htt in_Lines (htt _ k_187)
  obtain ⟨c12, i12, h12⟩ := u_known htt in_Replacer (htt _ k_192)
  obtain ⟨c13, i13, h13⟩ := u_known htt in_Mod (htt _ k_369)
  obtain ⟨a0, ha0⟩ := arr_of (fun _ h9 => by cases h9) (htt _ k_4)
  obtain ⟨a1, ha1⟩ := arr_of (fun _ h9 => by cases h9) (htt _ k_7)
  obtain ⟨a2, ha2⟩ := arr_of (fun _ h9 => by cases h9) (htt _ k_14)
  obtain ⟨a3, ha3⟩ := arr_of (fun _ h9 => by cases h9) (htt _ k_16)
  obtain ⟨a4, ha4⟩ := arr_of (fun _ h9 => by cases h9) (htt _ k_75)
  refine ⟨((fun k => [c0, c1, c2, c3, c4, c5, c6, c7, c8, c9, c10, c11, c12, c13].getD k c0, fun k => [i0, i1, i2, i3, i4, i5, i6, i7, i8, i9, i10, i11, i12, i13].getD k i0), fun k => [a0, a1, a2, a3, a4].getD k a0), ?_, ?_⟩
  · intro k q hq
    have hlt : k < 14 := (List.getElem?_eq_some_iff.mp hq).1
    rcases (show k = 0 ∨ k = 1 ∨ k = 2 ∨ k = 3 ∨ k = 4 ∨ k = 5 ∨ k = 6 ∨ k = 7 ∨ k = 8 ∨ k = 9 ∨ k = 10 ∨ k = 11 ∨ k = 12 ∨ k = 13 by omega) with rfl | rfl | rfl | rfl | rfl | rfl | rfl | rfl | rfl | rfl | rfl | rfl | rfl | rfl
    · have e9 : q = ("MacroMill", F_MM, 7) := (Option.some.inj hq).symm
      subst e9
      exact h0
    · have e9 : q = ("MacroMill$Files", F_Files, 5) := (Option.some.inj hq).symm
      subst e9
      exact h1
    · have e9 : q = ("MacroMill$Outcome", F_Outcome, 10) := (Option.some.inj hq).symm
      subst e9
      exact h2
    · have e9 : q = ("MacroMill$Reckoner", F_Reckoner, 13) := (Option.some.inj hq).symm
      subst e9
      exact h3
    · have e9 : q = ("MacroMill$First", F_First, 15) := (Option.some.inj hq).symm
      subst e9
      exact h4
    · have e9 : q = ("MacroMill$Input", F_Input, 12) := (Option.some.inj hq).symm
      subst e9
      exact h5
    · have e9 : q = ("MacroMill$Calls", F_Calls, 10) := (Option.some.inj hq).symm
      subst e9
      exact h6
    · have e9 : q = ("MacroMill$Meanings", F_Meanings, 11) := (Option.some.inj hq).symm
      subst e9
      exact h7
    · have e9 : q = ("MacroMill$Second", F_Second, 22) := (Option.some.inj hq).symm
      subst e9
      exact h8
    · have e9 : q = ("MacroMill$Tokens", F_Tokens, 10) := (Option.some.inj hq).symm
      subst e9
      exact h9
    · have e9 : q = ("MacroMill$Macros", F_Macros, 19) := (Option.some.inj hq).symm
      subst e9
      exact h10
    · have e9 : q = ("MacroMill$Lines", F_Lines, 19) := (Option.some.inj hq).symm
      subst e9
      exact h11
    · have e9 : q = ("MacroMill$Replacer", F_Replacer, 16) := (Option.some.inj hq).symm
      subst e9
      exact h12
    · have e9 : q = ("MacroMillModel", F_Mod, 144) := (Option.some.inj hq).symm
      subst e9
      exact h13
  · intro k q hq
    have hlt : k < 5 := (List.getElem?_eq_some_iff.mp hq).1
    rcases (show k = 0 ∨ k = 1 ∨ k = 2 ∨ k = 3 ∨ k = 4 by omega) with rfl | rfl | rfl | rfl | rfl
    · have e9 : q = (a0, .byte) := (Option.some.inj hq).symm
      subst e9
      exact ha0
    · have e9 : q = (a1, .int) := (Option.some.inj hq).symm
      subst e9
      exact ha1
    · have e9 : q = (a2, .long) := (Option.some.inj hq).symm
      subst e9
      exact ha2
    · have e9 : q = (a3, .boolean) := (Option.some.inj hq).symm
      subst e9
      exact ha3
    · have e9 : q = (a4, .char) := (Option.some.inj hq).symm
      subst e9
      exact ha4

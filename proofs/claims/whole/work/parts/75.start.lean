theorem wl_RL_98 : zLi RL 98 yX5_init := ⟨(zgt_at 46 (by decide +kernel) (by decide +kernel)), rfl, (zgt_at 47 (by decide +kernel) (by decide +kernel))⟩
theorem wl_RL_101 : zLi RL 101 yX6_init := ⟨(zgt_at 922 (by decide +kernel) (by decide +kernel)), rfl, (zgt_at 923 (by decide +kernel) (by decide +kernel))⟩
theorem wy_X5_init : zYw yX5_init cX5_init 2 none 0 := ⟨(zgt_at 48 (by decide +kernel) (by decide +kernel)), (zgt_at 29 (by decide +kernel) (by decide +kernel)), by decide +kernel, by decide +kernel, by decide +kernel⟩
theorem wy_X6_init : zYw yX6_init cX6_init 1 none 0 := ⟨(zgt_at 924 (by decide +kernel) (by decide +kernel)), (zgt_at 37 (by decide +kernel) (by decide +kernel)), by decide +kernel, by decide +kernel, by decide +kernel⟩
/-! THE CLAIM OUT OF ONE WALK OF THE LAW'S BODY. Your part is whole_start (and what it stands on); all else here is the same for every law, but numbers. -/
def R_law : String := "TrimmedLogLaw"
def lw_P (b : Addr) (xs : List Int32) (args : Array Value) (s : State) : Prop := args = #[.ref b] ∧ s.IntsAt b xs ∧ xs.length ≤ 2048 ∧ (Jvm.Cond.and given_1 narrow_1).before args s = true
def lw_Q (_ : Array Value) (s : State) (o : Outcome) (t : State) : Prop := o = .returned (some (.int 1)) ∧ Framed s o t [] 601024 7293034
def lw_Z (below : List Frame) (a : Array Value) (s : State) : State → Prop := fun t => ∃ o, t.status = .running ∧ Ended t below o ∧ lw_Q a s o t
/-- the law's own end, with 1 on the stack, nothing written that was there before, its room as the claim has it -/
theorem lw_ret {p : Program} {l : Launch} {e : Env} {s : State} {m : MethodId} {below : List Frame} {meth : Method} {c : Code} {b : Nat} (hx : p.tables.exec = Jvm.exec) (hb : c.code = code) (hr : meth.sig.returnType = ret) (hlocks : meth.locks = false) {pc : Nat} {H : Heap} {ls : Array Slot} (hdg : decode code pc = .ok (.ireturn, 1)) : W p l e room_1 s m #[Value.ref b] below meth c H [] 601024 7293034 (lw_Z below #[Value.ref b] s) (F0 m pc ls [.int 1]) := by
  intro T hT X
  obtain ⟨fs, hret, hrun, hended, hW, hframe⟩ := X.leave (v := some (.int 1)) (hlocks := hlocks) (fun h => by rw [hr] at h; cases h)
  have hmeth' : T.vm.method? m = some meth := X.method'
  refine ⟨T.setFrames fs, ?_, .returned (some (.int 1)), hrun, hended, rfl, ⟨_, rfl⟩, hW, hframe⟩
  jvm_step X.here [X.here.top, hx, hb, hdg, hmeth', hr, ret, narrow_b1]
  (try refine ⟨rfl, ?_⟩); (try refine ⟨rfl, ?_⟩)
  first | (intro acts; rw [hret _ acts rfl rfl rfl]) | rw [hret _ _ rfl rfl rfl]
  exact Steps.refl _
/-- what holds at the law's entry: the machine, the code, the tables' words (any of lw_tbl by 'hts w (by decide +kernel)'), the script of L ints xs at the cell b, what the Statement gives of the start (any of its parts by flat_of_before) -/
def lw_At (p : Program) (s : State) (m : MethodId) (meth : Method) (c : Code) (b L : Nat) (xs : Nat → Int32) : Prop :=
  p.tables.exec = Jvm.exec ∧ c.code = code ∧ meth.sig.returnType = ret ∧ c.maxLocals = 7 ∧ s.vm.findClass R_law = some m.cls ∧ (∀ w ∈ lw_tbl, w.before #[Value.ref b] s = true) ∧ va_X b L xs s s.heap ∧ b < s.heap.size ∧ meth.locks = false ∧ (Jvm.Cond.and given_1 narrow_1).before #[Value.ref b] s = true

theorem zst_num {args : Array Value} {s : State} {ty : FieldType} (h : (Cond.arrayClass ty).before args s = true) (hr : ∀ c : ClassId, s.vm.findClass ("[" ++ ty.toString) = some c → va_RA s c ty) : ∃ c : ClassId, ArrOfT s c ty ∧ va_RA s c ty := by
  obtain ⟨c, k, comp, h1, h2, h3⟩ := Cond.arrayClass_spec h
  exact ⟨c, fun n z => ⟨fun k h => (by cases h), k, h2, comp, h3⟩, hr c h1⟩
theorem zst_obj {args : Array Value} {s : State} {C : String} (h : (Cond.arrayOver (.object C)).before args s = true) : ∃ c : ClassId, ArrOfT s c (.object C) ∧ va_RA s c (.object C) := by
  obtain ⟨comp, c, k, h1, -, h2, h3, h4⟩ := Cond.arrayOver_spec h
  exact ⟨c, fun n z => ⟨fun k h => (by cases h), k, h2, comp, h3⟩, k, comp, h2, h3, h1, h4⟩
theorem zst_str {args : Array Value} {s : State} {k : Nat} {tx : String} (h1 : (Cond.stringRef "TrimmedLog" k tx).before args s = true) (h2 : (Cond.exactly (.string "TrimmedLog" k) "java/lang/String").before args s = true) : ∃ a, vk_R "TrimmedLog" k tx a s := by
  obtain ⟨a, h3⟩ : ∃ a, (Term.string "TrimmedLog" k).eval args s none [] s = some (.ref a) := by
    obtain ⟨a, c9, cell9, k9, h, -⟩ := Cond.exactly_spec h2
    exact ⟨a, h⟩
  exact ⟨a, vk_R.of h1 h3⟩
set_option maxRecDepth 100000 in
theorem zW_start {b : Nat} {s : State} (hts : ∀ w ∈ lw_tbl, w.before #[Value.ref b] s = true) (hg : (Jvm.Cond.and given_1 narrow_1).before #[Value.ref b] s = true) : ∃ (D : zD) (sa : Nat → Nat), zW D s.heap.size sa s s.heap := by
  have hz : ∀ w ∈ zgt, w.before #[Value.ref b] s = true := fun w hw => hts w (List.mem_filter.mp hw).1
  have hs := flat_of_before _ hg
  obtain ⟨c0, i0, k0⟩ := u_known (C := RX0) (T := TX0) (N := 3) (n := 3) hz wu_0 (hz _ (zgt_at 239 (by decide +kernel) (by decide +kernel)))
  obtain ⟨c1, i1, k1⟩ := u_known (C := RX1) (T := TX1) (N := 11) (n := 11) hz wu_1 (hz _ (zgt_at 91 (by decide +kernel) (by decide +kernel)))
  obtain ⟨c2, i2, k2⟩ := u_known (C := RX2) (T := TX2) (N := 9) (n := 9) hz wu_2 (hz _ (zgt_at 146 (by decide +kernel) (by decide +kernel)))
  obtain ⟨c3, i3, k3⟩ := u_known (C := RX3) (T := TX3) (N := 7) (n := 7) hz wu_3 (hz _ (zgt_at 85 (by decide +kernel) (by decide +kernel)))
  obtain ⟨c4, i4, k4⟩ := u_known (C := RX4) (T := TX4) (N := 8) (n := 8) hz wu_4 (hz _ (zgt_at 53 (by decide +kernel) (by decide +kernel)))
  obtain ⟨c5, i5, k5⟩ := u_known (C := RX5) (T := TX5) (N := 6) (n := 6) hz wu_5 (hz _ (zgt_at 45 (by decide +kernel) (by decide +kernel)))
  obtain ⟨c6, i6, k6⟩ := u_known (C := RX6) (T := TX6) (N := 13) (n := 13) hz wu_6 (hz _ (zgt_at 921 (by decide +kernel) (by decide +kernel)))
  obtain ⟨a0, ra0, rb0⟩ := zst_num (ty := .int) (hz _ wa_int) (fun c h => h)
  obtain ⟨a1, ra1, rb1⟩ := zst_num (ty := .boolean) (hz _ wa_bool) (fun c h => h)
  obtain ⟨a2, ra2, rb2⟩ := zst_num (ty := .char) (hz _ wa_char) (fun c h => h)
  obtain ⟨a3, ra3, rb3⟩ := zst_num (ty := .long) (hz _ wa_long) (fun c h => h)
  have ao1 := (hts (.arrayOver (.object "TrimmedLog$Reader")) (List.mem_of_getElem? (i := 145) (by decide +kernel)))
  have ao2 := (hts (.arrayOver (.object "TrimmedLog$State")) (List.mem_of_getElem? (i := 245) (by decide +kernel)))
  obtain ⟨a4, ra4, rb4⟩ := zst_obj ao1
  obtain ⟨a5, ra5, rb5⟩ := zst_obj ao2
  have hA : ∀ a : Nat, a < s.heap.size → ¬ zA s.heap.size a := fun a h => Nat.not_le.mpr h
  obtain ⟨t0, e0, q0⟩ := va_Tof (tm := (.static "TrimmedLog" "AT_FIRST" "[I")) (ty := .int) (N := 6) (f := fun k => .int (zSv 0 k)) (A := zA s.heap.size) (by decide) (hs (.arrayOf (.static "TrimmedLog" "AT_FIRST" "[I") .int) (by decide +kernel)) (va_eqt (z := 6) (hs (.eq (.length (.static "TrimmedLog" "AT_FIRST" "[I")) (.int 6)) (by decide +kernel))) (fun k hk => by
    match k with
    | 0 => exact va_eqt (z := 4) (hs (.eq (.elem (.static "TrimmedLog" "AT_FIRST" "[I") (.int 0)) (.int 4)) (by decide +kernel))
    | 1 => exact va_eqt (z := 100) (hs (.eq (.elem (.static "TrimmedLog" "AT_FIRST" "[I") (.int 1)) (.int 100)) (by decide +kernel))
    | 2 => exact va_eqt (z := 0) (hs (.eq (.elem (.static "TrimmedLog" "AT_FIRST" "[I") (.int 2)) (.int 0)) (by decide +kernel))
    | 3 => exact va_eqt (z := 400) (hs (.eq (.elem (.static "TrimmedLog" "AT_FIRST" "[I") (.int 3)) (.int 400)) (by decide +kernel))
    | 4 => exact va_eqt (z := 0) (hs (.eq (.elem (.static "TrimmedLog" "AT_FIRST" "[I") (.int 4)) (.int 0)) (by decide +kernel))
    | 5 => exact va_eqt (z := 0) (hs (.eq (.elem (.static "TrimmedLog" "AT_FIRST" "[I") (.int 5)) (.int 0)) (by decide +kernel))
    | k + 6 => exact absurd hk (by omega)) hA
  have z0 : va_Z "TrimmedLog" "AT_FIRST" "[I" (.ref t0) (zA s.heap.size) s s.heap := va_Zref (hts (.laysStatic "TrimmedLog" "AT_FIRST" "[I") (List.mem_of_getElem? (i := 202) (by decide +kernel))) (hz _ (zgt_at 29 (by decide +kernel) (by decide +kernel))) e0 hA
  obtain ⟨t1, e1, q1⟩ := va_Tof (tm := (.static "TrimmedLog" "LEAST" "[I")) (ty := .int) (N := 6) (f := fun k => .int (zSv 1 k)) (A := zA s.heap.size) (by decide) (hs (.arrayOf (.static "TrimmedLog" "LEAST" "[I") .int) (by decide +kernel)) (va_eqt (z := 6) (hs (.eq (.length (.static "TrimmedLog" "LEAST" "[I")) (.int 6)) (by decide +kernel))) (fun k hk => by
    match k with
    | 0 => exact va_eqt (z := 1) (hs (.eq (.elem (.static "TrimmedLog" "LEAST" "[I") (.int 0)) (.int 1)) (by decide +kernel))
    | 1 => exact va_eqt (z := 40) (hs (.eq (.elem (.static "TrimmedLog" "LEAST" "[I") (.int 1)) (.int 40)) (by decide +kernel))
    | 2 => exact va_eqt (z := 0) (hs (.eq (.elem (.static "TrimmedLog" "LEAST" "[I") (.int 2)) (.int 0)) (by decide +kernel))
    | 3 => exact va_eqt (z := 0) (hs (.eq (.elem (.static "TrimmedLog" "LEAST" "[I") (.int 3)) (.int 0)) (by decide +kernel))
    | 4 => exact va_eqt (z := 0) (hs (.eq (.elem (.static "TrimmedLog" "LEAST" "[I") (.int 4)) (.int 0)) (by decide +kernel))
    | 5 => exact va_eqt (z := 0) (hs (.eq (.elem (.static "TrimmedLog" "LEAST" "[I") (.int 5)) (.int 0)) (by decide +kernel))
    | k + 6 => exact absurd hk (by omega)) hA
  have z1 : va_Z "TrimmedLog" "LEAST" "[I" (.ref t1) (zA s.heap.size) s s.heap := va_Zref (hts (.laysStatic "TrimmedLog" "LEAST" "[I") (List.mem_of_getElem? (i := 568) (by decide +kernel))) (hz _ (zgt_at 29 (by decide +kernel) (by decide +kernel))) e1 hA
  obtain ⟨t2, e2, q2⟩ := va_Tof (tm := (.static "TrimmedLog" "MOST" "[I")) (ty := .int) (N := 6) (f := fun k => .int (zSv 2 k)) (A := zA s.heap.size) (by decide) (hs (.arrayOf (.static "TrimmedLog" "MOST" "[I") .int) (by decide +kernel)) (va_eqt (z := 6) (hs (.eq (.length (.static "TrimmedLog" "MOST" "[I")) (.int 6)) (by decide +kernel))) (fun k hk => by
    match k with
    | 0 => exact va_eqt (z := 8) (hs (.eq (.elem (.static "TrimmedLog" "MOST" "[I") (.int 0)) (.int 8)) (by decide +kernel))
    | 1 => exact va_eqt (z := 200) (hs (.eq (.elem (.static "TrimmedLog" "MOST" "[I") (.int 1)) (.int 200)) (by decide +kernel))
    | 2 => exact va_eqt (z := 99) (hs (.eq (.elem (.static "TrimmedLog" "MOST" "[I") (.int 2)) (.int 99)) (by decide +kernel))
    | 3 => exact va_eqt (z := 4000) (hs (.eq (.elem (.static "TrimmedLog" "MOST" "[I") (.int 3)) (.int 4000)) (by decide +kernel))
    | 4 => exact va_eqt (z := 4000) (hs (.eq (.elem (.static "TrimmedLog" "MOST" "[I") (.int 4)) (.int 4000)) (by decide +kernel))
    | 5 => exact va_eqt (z := 99) (hs (.eq (.elem (.static "TrimmedLog" "MOST" "[I") (.int 5)) (.int 99)) (by decide +kernel))
    | k + 6 => exact absurd hk (by omega)) hA
  have z2 : va_Z "TrimmedLog" "MOST" "[I" (.ref t2) (zA s.heap.size) s s.heap := va_Zref (hts (.laysStatic "TrimmedLog" "MOST" "[I") (List.mem_of_getElem? (i := 570) (by decide +kernel))) (hz _ (zgt_at 29 (by decide +kernel) (by decide +kernel))) e2 hA
  have yu : vx_Zq Bundle.tN "UNASSIGNED_STACK" Bundle.steD (zA s.heap.size) s s.heap := vx_Zqof (hts (.laysStatic Bundle.tN "UNASSIGNED_STACK" Bundle.steD) (List.mem_of_getElem? (i := 464) (by decide +kernel))) (hz _ (zgt_at 38 (by decide +kernel) (by decide +kernel))) (hs (.isRef (.static Bundle.tN "UNASSIGNED_STACK" Bundle.steD)) (by decide +kernel)) hA
  have yv : vx_Zq Bundle.tN "SUPPRESSED_SENTINEL" Bundle.listD (zA s.heap.size) s s.heap := vx_Zqof (hts (.laysStatic Bundle.tN "SUPPRESSED_SENTINEL" Bundle.listD) (List.mem_of_getElem? (i := 466) (by decide +kernel))) (hz _ (zgt_at 38 (by decide +kernel) (by decide +kernel))) (hs (.isRef (.static Bundle.tN "SUPPRESSED_SENTINEL" Bundle.listD)) (by decide +kernel)) hA
  refine ⟨((fun i => match i with | 0 => c0 | 1 => c1 | 2 => c2 | 3 => c3 | 4 => c4 | 5 => c5 | _ => c6), (fun i => match i with | 0 => i0 | 1 => i1 | 2 => i2 | 3 => i3 | 4 => i4 | 5 => i5 | _ => i6), (fun i => match i with | 100 => a0 | 101 => a1 | 102 => a2 | 103 => a3 | 104 => a4 | _ => a5)), (fun i => match i with | 0 => t0 | 1 => t1 | _ => t2), ⟨?_, ?_⟩, ?_, yu, yv, ?_, ?_, ?_, ?_, ?_, ?_, ?_⟩
  · intro c q hq
    match c, hq with
    | 0, rfl => exact k0
    | 1, rfl => exact k1
    | 2, rfl => exact k2
    | 3, rfl => exact k3
    | 4, rfl => exact k4
    | 5, rfl => exact k5
    | 6, rfl => exact k6
    | c + 7, hq => exact nomatch hq
  · intro k q hk
    match k, hk with
    | 0, rfl => exact ⟨ra0, rb0⟩
    | 1, rfl => exact ⟨ra1, rb1⟩
    | 2, rfl => exact ⟨ra2, rb2⟩
    | 3, rfl => exact ⟨ra3, rb3⟩
    | 4, rfl => exact ⟨ra4, rb4⟩
    | 5, rfl => exact ⟨ra5, rb5⟩
    | k + 6, hk => exact nomatch hk
  · intro j hj
    match j with
    | 0 => exact ⟨z0, q0⟩
    | 1 => exact ⟨z1, q1⟩
    | 2 => exact ⟨z2, q2⟩
    | j + 3 => exact absurd hj (by omega)
  · exact (List.forall_mem_cons.mpr ⟨(va_Nc.of (hs (.not (.castable "java/lang/IllegalStateException" "java/lang/IllegalArgumentException")) (by decide +kernel))), (List.forall_mem_cons.mpr ⟨(va_Nc.of (hs (.not (.castable "java/lang/IllegalStateException" "java/lang/IndexOutOfBoundsException")) (by decide +kernel))), (List.forall_mem_cons.mpr ⟨(va_Nc.of (hs (.not (.castable "java/lang/IllegalArgumentException" "java/lang/IndexOutOfBoundsException")) (by decide +kernel))), (List.forall_mem_cons.mpr ⟨(va_Nc.of (hs (.not (.castable "java/lang/IllegalArgumentException" "java/lang/IllegalStateException")) (by decide +kernel))), (List.forall_mem_cons.mpr ⟨(va_Nc.of (hs (.not (.castable "java/lang/IndexOutOfBoundsException" "java/lang/IllegalArgumentException")) (by decide +kernel))), (List.forall_mem_cons.mpr ⟨(va_Nc.of (hs (.not (.castable "java/lang/IndexOutOfBoundsException" "java/lang/IllegalStateException")) (by decide +kernel))), (fun _ h => absurd h List.not_mem_nil)⟩)⟩)⟩)⟩)⟩)⟩)
  · exact (List.forall_mem_cons.mpr ⟨(zst_str (hts (.stringRef "TrimmedLog" 47 "c is not 0 to 255") (List.mem_of_getElem? (i := 478) (by decide +kernel))) (hs (.exactly (.string "TrimmedLog" 47) "java/lang/String") (by decide +kernel))), (List.forall_mem_cons.mpr ⟨(zst_str (hts (.stringRef "TrimmedLog" 58 "the text is full") (List.mem_of_getElem? (i := 518) (by decide +kernel))) (hs (.exactly (.string "TrimmedLog" 58) "java/lang/String") (by decide +kernel))), (List.forall_mem_cons.mpr ⟨(zst_str (hts (.stringRef "TrimmedLog" 72 "the text is not a log") (List.mem_of_getElem? (i := 536) (by decide +kernel))) (hs (.exactly (.string "TrimmedLog" 72) "java/lang/String") (by decide +kernel))), (List.forall_mem_cons.mpr ⟨(zst_str (hts (.stringRef "TrimmedLog" 84 "what is not 0 to 11") (List.mem_of_getElem? (i := 637) (by decide +kernel))) (hs (.exactly (.string "TrimmedLog" 84) "java/lang/String") (by decide +kernel))), (List.forall_mem_cons.mpr ⟨(zst_str (hts (.stringRef "TrimmedLog" 102 "the log has no such row") (List.mem_of_getElem? (i := 667) (by decide +kernel))) (hs (.exactly (.string "TrimmedLog" 102) "java/lang/String") (by decide +kernel))), (List.forall_mem_cons.mpr ⟨(zst_str (hts (.stringRef "TrimmedLog" 105 "what is not 0 to 5") (List.mem_of_getElem? (i := 674) (by decide +kernel))) (hs (.exactly (.string "TrimmedLog" 105) "java/lang/String") (by decide +kernel))), (List.forall_mem_cons.mpr ⟨(zst_str (hts (.stringRef "TrimmedLog" 117 "there is no such segment") (List.mem_of_getElem? (i := 693) (by decide +kernel))) (hs (.exactly (.string "TrimmedLog" 117) "java/lang/String") (by decide +kernel))), (List.forall_mem_cons.mpr ⟨(zst_str (hts (.stringRef "TrimmedLog" 126 "there is no such reader") (List.mem_of_getElem? (i := 708) (by decide +kernel))) (hs (.exactly (.string "TrimmedLog" 126) "java/lang/String") (by decide +kernel))), (List.forall_mem_cons.mpr ⟨(zst_str (hts (.stringRef "TrimmedLog" 128 "what is not 0 to 8") (List.mem_of_getElem? (i := 709) (by decide +kernel))) (hs (.exactly (.string "TrimmedLog" 128) "java/lang/String") (by decide +kernel))), (List.forall_mem_cons.mpr ⟨(zst_str (hts (.stringRef "TrimmedLog" 134 "key is not 0 to 7") (List.mem_of_getElem? (i := 724) (by decide +kernel))) (hs (.exactly (.string "TrimmedLog" 134) "java/lang/String") (by decide +kernel))), (List.forall_mem_cons.mpr ⟨(zst_str (hts (.stringRef "TrimmedLog" 266 "an argument is out of its range") (List.mem_of_getElem? (i := 752) (by decide +kernel))) (hs (.exactly (.string "TrimmedLog" 266) "java/lang/String") (by decide +kernel))), (List.forall_mem_cons.mpr ⟨(zst_str (hts (.stringRef "TrimmedLog" 268 "the log does not allow it now") (List.mem_of_getElem? (i := 753) (by decide +kernel))) (hs (.exactly (.string "TrimmedLog" 268) "java/lang/String") (by decide +kernel))), (List.forall_mem_cons.mpr ⟨(zst_str (hts (.stringRef "TrimmedLog" 164 "no state is remembered") (List.mem_of_getElem? (i := 815) (by decide +kernel))) (hs (.exactly (.string "TrimmedLog" 164) "java/lang/String") (by decide +kernel))), (List.forall_mem_cons.mpr ⟨(zst_str (hts (.stringRef "TrimmedLog" 181 "row is not from the first row to the end") (List.mem_of_getElem? (i := 827) (by decide +kernel))) (hs (.exactly (.string "TrimmedLog" 181) "java/lang/String") (by decide +kernel))), (List.forall_mem_cons.mpr ⟨(zst_str (hts (.stringRef "TrimmedLog" 183 "key is not 0 to 7, or way is not 0 or 1") (List.mem_of_getElem? (i := 828) (by decide +kernel))) (hs (.exactly (.string "TrimmedLog" 183) "java/lang/String") (by decide +kernel))), (List.forall_mem_cons.mpr ⟨(zst_str (hts (.stringRef "TrimmedLog" 205 "n is not 1 to 200") (List.mem_of_getElem? (i := 860) (by decide +kernel))) (hs (.exactly (.string "TrimmedLog" 205) "java/lang/String") (by decide +kernel))), (List.forall_mem_cons.mpr ⟨(zst_str (hts (.stringRef "TrimmedLog" 214 "n is not 1 to 3") (List.mem_of_getElem? (i := 872) (by decide +kernel))) (hs (.exactly (.string "TrimmedLog" 214) "java/lang/String") (by decide +kernel))), (List.forall_mem_cons.mpr ⟨(zst_str (hts (.stringRef "TrimmedLog" 220 "script is not a number of at most 6 * n digits") (List.mem_of_getElem? (i := 877) (by decide +kernel))) (hs (.exactly (.string "TrimmedLog" 220) "java/lang/String") (by decide +kernel))), (List.forall_mem_cons.mpr ⟨(zst_str (hts (.stringRef "TrimmedLog" 228 "m is not 1 to 60") (List.mem_of_getElem? (i := 897) (by decide +kernel))) (hs (.exactly (.string "TrimmedLog" 228) "java/lang/String") (by decide +kernel))), (List.forall_mem_cons.mpr ⟨(zst_str (hts (.stringRef "TrimmedLog" 252 "there is no such save slot") (List.mem_of_getElem? (i := 911) (by decide +kernel))) (hs (.exactly (.string "TrimmedLog" 252) "java/lang/String") (by decide +kernel))), (List.forall_mem_cons.mpr ⟨(zst_str (hts (.stringRef "TrimmedLog" 261 "nothing has been saved in it since the last load") (List.mem_of_getElem? (i := 919) (by decide +kernel))) (hs (.exactly (.string "TrimmedLog" 261) "java/lang/String") (by decide +kernel))), (fun _ h => absurd h List.not_mem_nil)⟩)⟩)⟩)⟩)⟩)⟩)⟩)⟩)⟩)⟩)⟩)⟩)⟩)⟩)⟩)⟩)⟩)⟩)⟩)⟩)⟩)
  · exact (List.forall_mem_cons.mpr ⟨(va_Nw.of rfl (hts (.methodLinkNest RX5 9 yX4_init "TrimmedLog") (List.mem_of_getElem? (i := 54) (by decide +kernel)))), (List.forall_mem_cons.mpr ⟨(va_Nw.of rfl (hts (.methodLinkNest RX3 11 yX1_init "TrimmedLog") (List.mem_of_getElem? (i := 92) (by decide +kernel)))), (List.forall_mem_cons.mpr ⟨(va_Nw.of rfl (hts (.methodLinkNest RX3 28 yX2_init "TrimmedLog") (List.mem_of_getElem? (i := 147) (by decide +kernel)))), (List.forall_mem_cons.mpr ⟨(va_Nw.of rfl (hts (.methodLinkNest RX3 37 yX5_copy "TrimmedLog") (List.mem_of_getElem? (i := 203) (by decide +kernel)))), (List.forall_mem_cons.mpr ⟨(va_Nw.of rfl (hts (.methodLinkNest RX4 54 yX5_asNumber "TrimmedLog") (List.mem_of_getElem? (i := 326) (by decide +kernel)))), (List.forall_mem_cons.mpr ⟨(va_Nw.of rfl (hts (.methodLinkNest RX3 145 yX5_at "TrimmedLog") (List.mem_of_getElem? (i := 353) (by decide +kernel)))), (List.forall_mem_cons.mpr ⟨(va_Nw.of rfl (hts (.methodLinkNest RX3 81 yX5_asNumber "TrimmedLog") (List.mem_of_getElem? (i := 360) (by decide +kernel)))), (List.forall_mem_cons.mpr ⟨(va_Nw.of rfl (hts (.methodLinkNest RX1 46 yX5_copy "TrimmedLog") (List.mem_of_getElem? (i := 393) (by decide +kernel)))), (List.forall_mem_cons.mpr ⟨(va_Nw.of rfl (hts (.methodLinkNest RX2 25 yX5_copy "TrimmedLog") (List.mem_of_getElem? (i := 398) (by decide +kernel)))), (List.forall_mem_cons.mpr ⟨(va_Nw.of rfl (hts (.methodLinkNest RX1 54 yX5_at "TrimmedLog") (List.mem_of_getElem? (i := 411) (by decide +kernel)))), (List.forall_mem_cons.mpr ⟨(va_Nw.of rfl (hts (.methodLinkNest RX1 69 yX5_put "TrimmedLog") (List.mem_of_getElem? (i := 418) (by decide +kernel)))), (List.forall_mem_cons.mpr ⟨(va_Nw.of rfl (hts (.methodLinkNest RX3 160 yX5_isIn "TrimmedLog") (List.mem_of_getElem? (i := 558) (by decide +kernel)))), (List.forall_mem_cons.mpr ⟨(va_Nw.of rfl (hts (.methodLinkNest RX3 218 yX5_put "TrimmedLog") (List.mem_of_getElem? (i := 591) (by decide +kernel)))), (fun _ h => absurd h List.not_mem_nil)⟩)⟩)⟩)⟩)⟩)⟩)⟩)⟩)⟩)⟩)⟩)⟩)⟩)
  · exact (List.forall_mem_cons.mpr ⟨(va_Nw.of rfl (hts (.fieldLinkNest RX3 34 "TrimmedLog" "AT_FIRST" "[I" "TrimmedLog") (List.mem_of_getElem? (i := 201) (by decide +kernel)))), (List.forall_mem_cons.mpr ⟨(va_Nw.of rfl (hts (.fieldLinkNest RX3 164 "TrimmedLog" "LEAST" "[I" "TrimmedLog") (List.mem_of_getElem? (i := 567) (by decide +kernel)))), (List.forall_mem_cons.mpr ⟨(va_Nw.of rfl (hts (.fieldLinkNest RX3 167 "TrimmedLog" "MOST" "[I" "TrimmedLog") (List.mem_of_getElem? (i := 569) (by decide +kernel)))), (fun _ h => absurd h List.not_mem_nil)⟩)⟩)⟩)
  · exact (List.forall_mem_cons.mpr ⟨(va_Nw.of rfl (hts (.castable "java/lang/IllegalArgumentException" "java/lang/IllegalArgumentException") (List.mem_of_getElem? (i := 439) (by decide +kernel)))), (List.forall_mem_cons.mpr ⟨(va_Nw.of rfl (hts (.castable "java/lang/IllegalStateException" "java/lang/IllegalStateException") (List.mem_of_getElem? (i := 511) (by decide +kernel)))), (List.forall_mem_cons.mpr ⟨(va_Nw.of rfl (hts (.castable "java/lang/IndexOutOfBoundsException" "java/lang/IndexOutOfBoundsException") (List.mem_of_getElem? (i := 660) (by decide +kernel)))), (fun _ h => absurd h List.not_mem_nil)⟩)⟩)⟩)
  · exact (List.forall_mem_cons.mpr ⟨(va_Nw.of rfl (hts (.declares ⟨"java/lang/RuntimeException", "<init>", "(Ljava/lang/String;)V"⟩) (List.mem_of_getElem? (i := 441) (by decide +kernel)))), (List.forall_mem_cons.mpr ⟨(va_Nw.of rfl (hts (.declares ⟨"java/lang/Exception", "<init>", "(Ljava/lang/String;)V"⟩) (List.mem_of_getElem? (i := 443) (by decide +kernel)))), (List.forall_mem_cons.mpr ⟨(va_Nw.of rfl (hts (.declares ⟨"java/lang/Throwable", "<init>", "(Ljava/lang/String;)V"⟩) (List.mem_of_getElem? (i := 445) (by decide +kernel)))), (fun _ h => absurd h List.not_mem_nil)⟩)⟩)⟩)
  · exact (List.forall_mem_cons.mpr ⟨(va_AO.of ao1), (List.forall_mem_cons.mpr ⟨(va_AO.of ao2), (fun _ h => absurd h List.not_mem_nil)⟩)⟩)
def KLs (Sim Sm2 : TT → MT → Prop) : Prop := KL_append Sim Sm2 ∧ KL_clearText Sim Sm2 ∧ KL_errorPosition Sim Sm2 ∧ KL_load Sim Sm2 ∧ KL_about Sim Sm2 ∧ KL_rowOf Sim Sm2 ∧ KL_segmentOf Sim Sm2 ∧ KL_readerOf Sim Sm2 ∧ KL_table Sim Sm2 ∧ KL_base Sim Sm2 ∧ KL_setting Sim Sm2 ∧ KL_write Sim Sm2 ∧ KL_join Sim Sm2 ∧ KL_read Sim Sm2 ∧ KL_leave Sim Sm2 ∧ KL_hold Sim Sm2 ∧ KL_set Sim Sm2 ∧ KL_ticks Sim Sm2 ∧ KL_undo Sim Sm2 ∧ KL_why Sim Sm2 ∧ KL_slowest Sim Sm2 ∧ KL_truth Sim Sm2 ∧ KL_droppedIn Sim Sm2 ∧ KL_lostIn Sim Sm2 ∧ KL_ifFree Sim Sm2 ∧ KL_leastRoom Sim Sm2 ∧ KL_runScript Sim Sm2 ∧ KL_simulate Sim Sm2 ∧ KL_save Sim Sm2 ∧ KL_restore Sim Sm2
theorem lw_end {p : Program} {l : Launch} {e : Env} {s : State} {m : MethodId} {below : List Frame} {meth : Method} {c : Code} {D : zD} {B : Nat} {sa : Nat → Nat} {b : Nat} {k n z : Nat} {L : zL} {G : zG} (O : zO p l s m #[.ref b] c D B sa 7 cL_law RL) (hBs : s.heap.size ≤ B) (hr : meth.sig.returnType = ret) (hlk : meth.locks = false) (hk : k ≤ 601024) (hn : n ≤ 7293034) : zT p l e room_1 s m #[.ref b] below meth c (lw_Z below #[.ref b] s) D B 7 k n 1896 [.int 1] L z G := fun H locs ls hR hS hl =>
  va_forget (fun q hq => Nat.le_trans hBs (hS.2.2 q hq)) (W.widen hk hn (lw_ret O.1 O.2.1 hr hlk dL_law_1896))
set_option maxRecDepth 100000 in
theorem lw_loop {p : Program} {l : Launch} {e : Env} {s : State} {m : MethodId} {below : List Frame} {meth : Method} {c : Code} {D : zD} {B : Nat} {sa : Nat → Nat} {b N : Nat} {xs : Nat → Int32} (hfl : l.stackTraces = false) (O : zO p l s m #[.ref b] c D B sa 7 cL_law RL) (hBs : s.heap.size ≤ B) (hr : meth.sig.returnType = ret) (hlk : meth.locks = false) {Sim : Nat → TT → MT → Prop} (K : ∀ i, i ≤ 2048 → KLs (Sim i) (Sim (i + 4))) (Ks : ∀ i v w, Sim i v w → Sim (i + 4) v w) (hN : N ≤ 2048) (hX : va_X b N xs s s.heap) (hb : b < s.heap.size) (hbB : ¬ B ≤ b) :
    ∀ (f i k n z : Nat) (v : TT) (w : MT) (o : Nat → Int64) (G : zG), N + 4 ≤ i + f → i ≤ 4096 → k ≤ 600 + i → n ≤ 40000 + 6 * i → Sim i v w → LI B v w o G → zT p l e room_1 s m #[.ref b] below meth c (lw_Z below #[.ref b] s) D B 7 k n 23 [] [some (.ref b), some (.ref B), some (.ref (B + 475)), some (.ref (B + 483)), some (.int (Int32.ofNat i)), none, none] z G := by
  intro f
  induction f with
  | zero =>
    intro i k n z v w o G hf hi4 hk hn hS hI
    have hi' : (Int32.ofNat i).toInt = i := Int32.toInt_ofNat_of_lt (by omega)
    have hN' : (Int32.ofNat N).toInt = N := Int32.toInt_ofNat_of_lt (by omega)
    refine z_iload O dL_law_23 rfl ?_
    refine z_aload_n O dL_law_25 rfl rfl ?_
    refine z_slen O hX hb hbB dL_law_26 ?_
    refine z_iconst (v := 4) O dL_law_27 (by decide) ?_
    refine z_isub O dL_law_28 ?_
    refine z_icmp_gt (tgt := 1895) O dL_law_29 (by decide) (fun _ => ?_) (fun q => absurd ?_ q)
    · refine z_iconst (v := 1) O dL_law_1895 (by decide) ?_
      exact lw_end O hBs hr hlk (by omega) (by omega)
    · rw [Int32.lt_iff_toInt_lt, zt_sub hN' rfl (by show -2147483648 ≤ (N : Int) - 4 ∧ (N : Int) - 4 < 2147483648; omega), hi']
      show (N : Int) - 4 < i
      omega
  | succ f ih =>
    intro i k n z v w o G hf hi4 hk hn hS hI
    have hi' : (Int32.ofNat i).toInt = i := Int32.toInt_ofNat_of_lt (by omega)
    have hN' : (Int32.ofNat N).toInt = N := Int32.toInt_ofNat_of_lt (by omega)
    refine z_iload O dL_law_23 rfl ?_
    refine z_aload_n O dL_law_25 rfl rfl ?_
    refine z_slen O hX hb hbB dL_law_26 ?_
    refine z_iconst (v := 4) O dL_law_27 (by decide) ?_
    refine z_isub O dL_law_28 ?_
    refine z_icmp_gt (tgt := 1895) O dL_law_29 (by decide) (fun _ => ?_) (fun q => ?_)
    · refine z_iconst (v := 1) O dL_law_1895 (by decide) ?_
      exact lw_end O hBs hr hlk (by omega) (by omega)
    have hlt : i + 4 ≤ N := by
      rw [Int32.lt_iff_toInt_lt, zt_sub hN' rfl (by show -2147483648 ≤ (N : Int) - 4 ∧ (N : Int) - 4 < 2147483648; omega), hi'] at q
      have q2 : ¬ ((N : Int) - 4 < i) := q
      omega
    have hi0 : vp_in (Int32.ofNat i) N := zt_in hi' (by omega)
    have hi1 : vp_in (Int32.ofNat i + 1) N := zt_in (zt_add hi' (show (1 : Int32).toInt = 1 from by decide) (by show -2147483648 ≤ (i : Int) + 1 ∧ (i : Int) + 1 < 2147483648; omega)) (by omega)
    have hi2 : vp_in (Int32.ofNat i + 2) N := zt_in (zt_add hi' (show (2 : Int32).toInt = 2 from by decide) (by show -2147483648 ≤ (i : Int) + 2 ∧ (i : Int) + 2 < 2147483648; omega)) (by omega)
    have hi3 : vp_in (Int32.ofNat i + 3) N := zt_in (zt_add hi' (show (3 : Int32).toInt = 3 from by decide) (by show -2147483648 ≤ (i : Int) + 3 ∧ (i : Int) + 3 < 2147483648; omega)) (by omega)
    have hnx : ∀ (k' n' : Nat) (v' : TT) (w' : MT) (o' : Nat → Int64) (z' : Nat) (G' : zG), k' ≤ k + 1 → n' ≤ n + 6 → Sim (i + 4) v' w' → LI B v' w' o' G' → zT p l e room_1 s m #[.ref b] below meth c (lw_Z below #[.ref b] s) D B 7 k' n' 1889 [] [some (.ref b), some (.ref B), some (.ref (B + 475)), some (.ref (B + 483)), some (.int (Int32.ofNat i)), none, none] z' G' := by
      intro k' n' v' w' o' z' G' hk' hn' hS' hI'
      have e4 : Int32.ofNat i + Int32.ofInt 4 = Int32.ofNat (i + 4) := by rw [Int32.ofNat_add]; rfl
      refine z_iinc (v := Int32.ofNat (i + 4)) (L' := [some (.ref b), some (.ref B), some (.ref (B + 475)), some (.ref (B + 483)), some (.int (Int32.ofNat (i + 4))), none, none]) O dL_law_1889 rfl e4 (by decide) rfl ?_
      refine z_goto (tgt := 23) O dL_law_1892 (by decide) ?_
      exact ih (i + 4) k' n' z' v' w' o' G' (by omega) (by omega) (by omega) (by omega) hS' hI'
    obtain ⟨hT, hM, hO⟩ := hI
    obtain ⟨K_append, K_clearText, K_errorPosition, K_load, K_about, K_rowOf, K_segmentOf, K_readerOf, K_table, K_base, K_setting, K_write, K_join, K_read, K_leave, K_hold, K_set, K_ticks, K_undo, K_why, K_slowest, K_truth, K_droppedIn, K_lostIn, K_ifFree, K_leastRoom, K_runScript, K_simulate, K_save, K_restore⟩ := K i (by omega)
    refine z_aload_n O dL_law_32 rfl rfl ?_
    refine z_iload O dL_law_33 rfl ?_
    refine z_sld O hX hb hbB hi0 dL_law_35 ?_
    refine z_bipush (v := 31) O dL_law_36 (by decide) ?_
    refine z_iand O dL_law_38 ?_
    generalize xs (Int32.toNatClampNeg (Int32.ofNat i)) &&& 31 = y
    rcases Decidable.em (y = 0) with c0 | c0
    · refine z_tsw (v := 0) (tgt := 172) O dL_law_39 c0 (by decide) (by decide) rfl (by decide) ?_
      exact lw_append hfl O K_append hX hb hbB hi1 hi2 hi3 (Nat.le_of_ble_eq_true rfl) (Nat.le_of_ble_eq_true rfl) (by show _ ≤ 601024; omega) (by show _ ≤ 7293034; omega) (by show _ ≤ 601024; omega) (by show _ ≤ 7293034; omega) hS hT hM hO (fun v' w' o' z' G' hS' hI' => hnx _ _ v' w' o' z' G' (by omega) (by omega) hS' hI')
    rcases Decidable.em (y = 1) with c1 | c1
    · refine z_tsw (v := 1) (tgt := 228) O dL_law_39 c1 (by decide) (by decide) rfl (by decide) ?_
      exact lw_clearText hfl O K_clearText hX hb hbB hi1 hi2 hi3 (Nat.le_of_ble_eq_true rfl) (Nat.le_of_ble_eq_true rfl) (by show _ ≤ 601024; omega) (by show _ ≤ 7293034; omega) (by show _ ≤ 601024; omega) (by show _ ≤ 7293034; omega) hS hT hM hO (fun v' w' o' z' G' hS' hI' => hnx _ _ v' w' o' z' G' (by omega) (by omega) hS' hI')
    rcases Decidable.em (y = 2) with c2 | c2
    · refine z_tsw (v := 2) (tgt := 241) O dL_law_39 c2 (by decide) (by decide) rfl (by decide) ?_
      exact lw_errorPosition hfl O K_errorPosition hX hb hbB hi1 hi2 hi3 (Nat.le_of_ble_eq_true rfl) (Nat.le_of_ble_eq_true rfl) (by show _ ≤ 601024; omega) (by show _ ≤ 7293034; omega) (by show _ ≤ 601024; omega) (by show _ ≤ 7293034; omega) hS hT hM hO (fun v' w' o' z' G' hS' hI' => hnx _ _ v' w' o' z' G' (by omega) (by omega) hS' hI')
    rcases Decidable.em (y = 3) with c3 | c3
    · refine z_tsw (v := 3) (tgt := 254) O dL_law_39 c3 (by decide) (by decide) rfl (by decide) ?_
      exact lw_load hfl O K_load hX hb hbB hi1 hi2 hi3 (Nat.le_of_ble_eq_true rfl) (Nat.le_of_ble_eq_true rfl) (by show _ ≤ 601024; omega) (by show _ ≤ 7293034; omega) (by show _ ≤ 601024; omega) (by show _ ≤ 7293034; omega) hS hT hM hO (fun v' w' o' z' G' hS' hI' => hnx _ _ v' w' o' z' G' (by omega) (by omega) hS' hI')
    rcases Decidable.em (y = 4) with c4 | c4
    · refine z_tsw (v := 4) (tgt := 298) O dL_law_39 c4 (by decide) (by decide) rfl (by decide) ?_
      exact lw_about hfl O K_about hX hb hbB hi1 hi2 hi3 (Nat.le_of_ble_eq_true rfl) (Nat.le_of_ble_eq_true rfl) (by show _ ≤ 601024; omega) (by show _ ≤ 7293034; omega) (by show _ ≤ 601024; omega) (by show _ ≤ 7293034; omega) hS hT hM hO (fun v' w' o' z' G' hS' hI' => hnx _ _ v' w' o' z' G' (by omega) (by omega) hS' hI')
    rcases Decidable.em (y = 5) with c5 | c5
    · refine z_tsw (v := 5) (tgt := 354) O dL_law_39 c5 (by decide) (by decide) rfl (by decide) ?_
      exact lw_rowOf hfl O K_rowOf hX hb hbB hi1 hi2 hi3 (Nat.le_of_ble_eq_true rfl) (Nat.le_of_ble_eq_true rfl) (by show _ ≤ 601024; omega) (by show _ ≤ 7293034; omega) (by show _ ≤ 601024; omega) (by show _ ≤ 7293034; omega) hS hT hM hO (fun v' w' o' z' G' hS' hI' => hnx _ _ v' w' o' z' G' (by omega) (by omega) hS' hI')
    rcases Decidable.em (y = 6) with c6 | c6
    · refine z_tsw (v := 6) (tgt := 422) O dL_law_39 c6 (by decide) (by decide) rfl (by decide) ?_
      exact lw_segmentOf hfl O K_segmentOf hX hb hbB hi1 hi2 hi3 (Nat.le_of_ble_eq_true rfl) (Nat.le_of_ble_eq_true rfl) (by show _ ≤ 601024; omega) (by show _ ≤ 7293034; omega) (by show _ ≤ 601024; omega) (by show _ ≤ 7293034; omega) hS hT hM hO (fun v' w' o' z' G' hS' hI' => hnx _ _ v' w' o' z' G' (by omega) (by omega) hS' hI')
    rcases Decidable.em (y = 7) with c7 | c7
    · refine z_tsw (v := 7) (tgt := 490) O dL_law_39 c7 (by decide) (by decide) rfl (by decide) ?_
      exact lw_readerOf hfl O K_readerOf hX hb hbB hi1 hi2 hi3 (Nat.le_of_ble_eq_true rfl) (Nat.le_of_ble_eq_true rfl) (by show _ ≤ 601024; omega) (by show _ ≤ 7293034; omega) (by show _ ≤ 601024; omega) (by show _ ≤ 7293034; omega) hS hT hM hO (fun v' w' o' z' G' hS' hI' => hnx _ _ v' w' o' z' G' (by omega) (by omega) hS' hI')
    rcases Decidable.em (y = 8) with c8 | c8
    · refine z_tsw (v := 8) (tgt := 558) O dL_law_39 c8 (by decide) (by decide) rfl (by decide) ?_
      exact lw_table hfl O K_table hX hb hbB hi1 hi2 hi3 (Nat.le_of_ble_eq_true rfl) (Nat.le_of_ble_eq_true rfl) (by show _ ≤ 601024; omega) (by show _ ≤ 7293034; omega) (by show _ ≤ 601024; omega) (by show _ ≤ 7293034; omega) hS hT hM hO (fun v' w' o' z' G' hS' hI' => hnx _ _ v' w' o' z' G' (by omega) (by omega) hS' hI')
    rcases Decidable.em (y = 9) with c9 | c9
    · refine z_tsw (v := 9) (tgt := 626) O dL_law_39 c9 (by decide) (by decide) rfl (by decide) ?_
      exact lw_base hfl O K_base hX hb hbB hi1 hi2 hi3 (Nat.le_of_ble_eq_true rfl) (Nat.le_of_ble_eq_true rfl) (by show _ ≤ 601024; omega) (by show _ ≤ 7293034; omega) (by show _ ≤ 601024; omega) (by show _ ≤ 7293034; omega) hS hT hM hO (fun v' w' o' z' G' hS' hI' => hnx _ _ v' w' o' z' G' (by omega) (by omega) hS' hI')
    rcases Decidable.em (y = 10) with c10 | c10
    · refine z_tsw (v := 10) (tgt := 682) O dL_law_39 c10 (by decide) (by decide) rfl (by decide) ?_
      exact lw_setting hfl O K_setting hX hb hbB hi1 hi2 hi3 (Nat.le_of_ble_eq_true rfl) (Nat.le_of_ble_eq_true rfl) (by show _ ≤ 601024; omega) (by show _ ≤ 7293034; omega) (by show _ ≤ 601024; omega) (by show _ ≤ 7293034; omega) hS hT hM hO (fun v' w' o' z' G' hS' hI' => hnx _ _ v' w' o' z' G' (by omega) (by omega) hS' hI')
    rcases Decidable.em (y = 11) with c11 | c11
    · refine z_tsw (v := 11) (tgt := 738) O dL_law_39 c11 (by decide) (by decide) rfl (by decide) ?_
      exact lw_write hfl O K_write hX hb hbB hi1 hi2 hi3 (Nat.le_of_ble_eq_true rfl) (Nat.le_of_ble_eq_true rfl) (by show _ ≤ 601024; omega) (by show _ ≤ 7293034; omega) (by show _ ≤ 601024; omega) (by show _ ≤ 7293034; omega) hS hT hM hO (fun v' w' o' z' G' hS' hI' => hnx _ _ v' w' o' z' G' (by omega) (by omega) hS' hI')
    rcases Decidable.em (y = 12) with c12 | c12
    · refine z_tsw (v := 12) (tgt := 818) O dL_law_39 c12 (by decide) (by decide) rfl (by decide) ?_
      exact lw_join hfl O K_join hX hb hbB hi1 hi2 hi3 (Nat.le_of_ble_eq_true rfl) (Nat.le_of_ble_eq_true rfl) (by show _ ≤ 601024; omega) (by show _ ≤ 7293034; omega) (by show _ ≤ 601024; omega) (by show _ ≤ 7293034; omega) hS hT hM hO (fun v' w' o' z' G' hS' hI' => hnx _ _ v' w' o' z' G' (by omega) (by omega) hS' hI')
    rcases Decidable.em (y = 13) with c13 | c13
    · refine z_tsw (v := 13) (tgt := 914) O dL_law_39 c13 (by decide) (by decide) rfl (by decide) ?_
      exact lw_read hfl O K_read hX hb hbB hi1 hi2 hi3 (Nat.le_of_ble_eq_true rfl) (Nat.le_of_ble_eq_true rfl) (by show _ ≤ 601024; omega) (by show _ ≤ 7293034; omega) (by show _ ≤ 601024; omega) (by show _ ≤ 7293034; omega) hS hT hM hO (fun v' w' o' z' G' hS' hI' => hnx _ _ v' w' o' z' G' (by omega) (by omega) hS' hI')
    rcases Decidable.em (y = 14) with c14 | c14
    · refine z_tsw (v := 14) (tgt := 982) O dL_law_39 c14 (by decide) (by decide) rfl (by decide) ?_
      exact lw_leave hfl O K_leave hX hb hbB hi1 hi2 hi3 (Nat.le_of_ble_eq_true rfl) (Nat.le_of_ble_eq_true rfl) (by show _ ≤ 601024; omega) (by show _ ≤ 7293034; omega) (by show _ ≤ 601024; omega) (by show _ ≤ 7293034; omega) hS hT hM hO (fun v' w' o' z' G' hS' hI' => hnx _ _ v' w' o' z' G' (by omega) (by omega) hS' hI')
    rcases Decidable.em (y = 15) with c15 | c15
    · refine z_tsw (v := 15) (tgt := 1038) O dL_law_39 c15 (by decide) (by decide) rfl (by decide) ?_
      exact lw_hold hfl O K_hold hX hb hbB hi1 hi2 hi3 (Nat.le_of_ble_eq_true rfl) (Nat.le_of_ble_eq_true rfl) (by show _ ≤ 601024; omega) (by show _ ≤ 7293034; omega) (by show _ ≤ 601024; omega) (by show _ ≤ 7293034; omega) hS hT hM hO (fun v' w' o' z' G' hS' hI' => hnx _ _ v' w' o' z' G' (by omega) (by omega) hS' hI')
    rcases Decidable.em (y = 16) with c16 | c16
    · refine z_tsw (v := 16) (tgt := 1122) O dL_law_39 c16 (by decide) (by decide) rfl (by decide) ?_
      exact lw_set hfl O K_set hX hb hbB hi1 hi2 hi3 (Nat.le_of_ble_eq_true rfl) (Nat.le_of_ble_eq_true rfl) (by show _ ≤ 601024; omega) (by show _ ≤ 7293034; omega) (by show _ ≤ 601024; omega) (by show _ ≤ 7293034; omega) hS hT hM hO (fun v' w' o' z' G' hS' hI' => hnx _ _ v' w' o' z' G' (by omega) (by omega) hS' hI')
    rcases Decidable.em (y = 17) with c17 | c17
    · refine z_tsw (v := 17) (tgt := 1190) O dL_law_39 c17 (by decide) (by decide) rfl (by decide) ?_
      exact lw_ticks hfl O K_ticks hX hb hbB hi1 hi2 hi3 (Nat.le_of_ble_eq_true rfl) (Nat.le_of_ble_eq_true rfl) (by show _ ≤ 601024; omega) (by show _ ≤ 7293034; omega) (by show _ ≤ 601024; omega) (by show _ ≤ 7293034; omega) hS hT hM hO (fun v' w' o' z' G' hS' hI' => hnx _ _ v' w' o' z' G' (by omega) (by omega) hS' hI')
    rcases Decidable.em (y = 18) with c18 | c18
    · refine z_tsw (v := 18) (tgt := 1246) O dL_law_39 c18 (by decide) (by decide) rfl (by decide) ?_
      exact lw_undo hfl O K_undo hX hb hbB hi1 hi2 hi3 (Nat.le_of_ble_eq_true rfl) (Nat.le_of_ble_eq_true rfl) (by show _ ≤ 601024; omega) (by show _ ≤ 7293034; omega) (by show _ ≤ 601024; omega) (by show _ ≤ 7293034; omega) hS hT hM hO (fun v' w' o' z' G' hS' hI' => hnx _ _ v' w' o' z' G' (by omega) (by omega) hS' hI')
    rcases Decidable.em (y = 19) with c19 | c19
    · refine z_tsw (v := 19) (tgt := 1290) O dL_law_39 c19 (by decide) (by decide) rfl (by decide) ?_
      exact lw_why hfl O K_why hX hb hbB hi1 hi2 hi3 (Nat.le_of_ble_eq_true rfl) (Nat.le_of_ble_eq_true rfl) (by show _ ≤ 601024; omega) (by show _ ≤ 7293034; omega) (by show _ ≤ 601024; omega) (by show _ ≤ 7293034; omega) hS hT hM hO (fun v' w' o' z' G' hS' hI' => hnx _ _ v' w' o' z' G' (by omega) (by omega) hS' hI')
    rcases Decidable.em (y = 20) with c20 | c20
    · refine z_tsw (v := 20) (tgt := 1303) O dL_law_39 c20 (by decide) (by decide) rfl (by decide) ?_
      exact lw_slowest hfl O K_slowest hX hb hbB hi1 hi2 hi3 (Nat.le_of_ble_eq_true rfl) (Nat.le_of_ble_eq_true rfl) (by show _ ≤ 601024; omega) (by show _ ≤ 7293034; omega) (by show _ ≤ 601024; omega) (by show _ ≤ 7293034; omega) hS hT hM hO (fun v' w' o' z' G' hS' hI' => hnx _ _ v' w' o' z' G' (by omega) (by omega) hS' hI')
    rcases Decidable.em (y = 21) with c21 | c21
    · refine z_tsw (v := 21) (tgt := 1316) O dL_law_39 c21 (by decide) (by decide) rfl (by decide) ?_
      exact lw_truth hfl O K_truth hX hb hbB hi1 hi2 hi3 (Nat.le_of_ble_eq_true rfl) (Nat.le_of_ble_eq_true rfl) (by show _ ≤ 601024; omega) (by show _ ≤ 7293034; omega) (by show _ ≤ 601024; omega) (by show _ ≤ 7293034; omega) hS hT hM hO (fun v' w' o' z' G' hS' hI' => hnx _ _ v' w' o' z' G' (by omega) (by omega) hS' hI')
    rcases Decidable.em (y = 22) with c22 | c22
    · refine z_tsw (v := 22) (tgt := 1396) O dL_law_39 c22 (by decide) (by decide) rfl (by decide) ?_
      exact lw_droppedIn hfl O K_droppedIn hX hb hbB hi1 hi2 hi3 (Nat.le_of_ble_eq_true rfl) (Nat.le_of_ble_eq_true rfl) (by show _ ≤ 601024; omega) (by show _ ≤ 7293034; omega) (by show _ ≤ 601024; omega) (by show _ ≤ 7293034; omega) hS hT hM hO (fun v' w' o' z' G' hS' hI' => hnx _ _ v' w' o' z' G' (by omega) (by omega) hS' hI')
    rcases Decidable.em (y = 23) with c23 | c23
    · refine z_tsw (v := 23) (tgt := 1409) O dL_law_39 c23 (by decide) (by decide) rfl (by decide) ?_
      exact lw_lostIn hfl O K_lostIn hX hb hbB hi1 hi2 hi3 (Nat.le_of_ble_eq_true rfl) (Nat.le_of_ble_eq_true rfl) (by show _ ≤ 601024; omega) (by show _ ≤ 7293034; omega) (by show _ ≤ 601024; omega) (by show _ ≤ 7293034; omega) hS hT hM hO (fun v' w' o' z' G' hS' hI' => hnx _ _ v' w' o' z' G' (by omega) (by omega) hS' hI')
    rcases Decidable.em (y = 24) with c24 | c24
    · refine z_tsw (v := 24) (tgt := 1465) O dL_law_39 c24 (by decide) (by decide) rfl (by decide) ?_
      exact lw_ifFree hfl O K_ifFree hX hb hbB hi1 hi2 hi3 (Nat.le_of_ble_eq_true rfl) (Nat.le_of_ble_eq_true rfl) (by show _ ≤ 601024; omega) (by show _ ≤ 7293034; omega) (by show _ ≤ 601024; omega) (by show _ ≤ 7293034; omega) hS hT hM hO (fun v' w' o' z' G' hS' hI' => hnx _ _ v' w' o' z' G' (by omega) (by omega) hS' hI')
    rcases Decidable.em (y = 25) with c25 | c25
    · refine z_tsw (v := 25) (tgt := 1521) O dL_law_39 c25 (by decide) (by decide) rfl (by decide) ?_
      exact lw_leastRoom hfl O K_leastRoom hX hb hbB hi1 hi2 hi3 (Nat.le_of_ble_eq_true rfl) (Nat.le_of_ble_eq_true rfl) (by show _ ≤ 601024; omega) (by show _ ≤ 7293034; omega) (by show _ ≤ 601024; omega) (by show _ ≤ 7293034; omega) hS hT hM hO (fun v' w' o' z' G' hS' hI' => hnx _ _ v' w' o' z' G' (by omega) (by omega) hS' hI')
    rcases Decidable.em (y = 26) with c26 | c26
    · refine z_tsw (v := 26) (tgt := 1577) O dL_law_39 c26 (by decide) (by decide) rfl (by decide) ?_
      exact lw_runScript hfl O K_runScript hX hb hbB hi1 hi2 hi3 (Nat.le_of_ble_eq_true rfl) (Nat.le_of_ble_eq_true rfl) (by show _ ≤ 601024; omega) (by show _ ≤ 7293034; omega) (by show _ ≤ 601024; omega) (by show _ ≤ 7293034; omega) hS hT hM hO (fun v' w' o' z' G' hS' hI' => hnx _ _ v' w' o' z' G' (by omega) (by omega) hS' hI')
    rcases Decidable.em (y = 27) with c27 | c27
    · refine z_tsw (v := 27) (tgt := 1677) O dL_law_39 c27 (by decide) (by decide) rfl (by decide) ?_
      exact lw_simulate hfl O K_simulate hX hb hbB hi1 hi2 hi3 (Nat.le_of_ble_eq_true rfl) (Nat.le_of_ble_eq_true rfl) (by show _ ≤ 601024; omega) (by show _ ≤ 7293034; omega) (by show _ ≤ 601024; omega) (by show _ ≤ 7293034; omega) hS hT hM hO (fun v' w' o' z' G' hS' hI' => hnx _ _ v' w' o' z' G' (by omega) (by omega) hS' hI')
    rcases Decidable.em (y = 28) with c28 | c28
    · refine z_tsw (v := 28) (tgt := 1777) O dL_law_39 c28 (by decide) (by decide) rfl (by decide) ?_
      exact lw_save hfl O K_save hX hb hbB hi1 hi2 hi3 (Nat.le_of_ble_eq_true rfl) (Nat.le_of_ble_eq_true rfl) (by show _ ≤ 601024; omega) (by show _ ≤ 7293034; omega) (by show _ ≤ 601024; omega) (by show _ ≤ 7293034; omega) hS hT hM hO (fun v' w' o' z' G' hS' hI' => hnx _ _ v' w' o' z' G' (by omega) (by omega) hS' hI')
    rcases Decidable.em (y = 29) with c29 | c29
    · refine z_tsw (v := 29) (tgt := 1833) O dL_law_39 c29 (by decide) (by decide) rfl (by decide) ?_
      exact lw_restore hfl O K_restore hX hb hbB hi1 hi2 hi3 (Nat.le_of_ble_eq_true rfl) (Nat.le_of_ble_eq_true rfl) (by show _ ≤ 601024; omega) (by show _ ≤ 7293034; omega) (by show _ ≤ 601024; omega) (by show _ ≤ 7293034; omega) hS hT hM hO (fun v' w' o' z' G' hS' hI' => hnx _ _ v' w' o' z' G' (by omega) (by omega) hS' hI')
    refine z_tswd (tgt := 1889) O dL_law_39 (zsw_out (fun j h1 h2 => by rcases (show j = 0 ∨ j = 1 ∨ j = 2 ∨ j = 3 ∨ j = 4 ∨ j = 5 ∨ j = 6 ∨ j = 7 ∨ j = 8 ∨ j = 9 ∨ j = 10 ∨ j = 11 ∨ j = 12 ∨ j = 13 ∨ j = 14 ∨ j = 15 ∨ j = 16 ∨ j = 17 ∨ j = 18 ∨ j = 19 ∨ j = 20 ∨ j = 21 ∨ j = 22 ∨ j = 23 ∨ j = 24 ∨ j = 25 ∨ j = 26 ∨ j = 27 ∨ j = 28 ∨ j = 29 by omega) with rfl | rfl | rfl | rfl | rfl | rfl | rfl | rfl | rfl | rfl | rfl | rfl | rfl | rfl | rfl | rfl | rfl | rfl | rfl | rfl | rfl | rfl | rfl | rfl | rfl | rfl | rfl | rfl | rfl | rfl; exact c0; exact c1; exact c2; exact c3; exact c4; exact c5; exact c6; exact c7; exact c8; exact c9; exact c10; exact c11; exact c12; exact c13; exact c14; exact c15; exact c16; exact c17; exact c18; exact c19; exact c20; exact c21; exact c22; exact c23; exact c24; exact c25; exact c26; exact c27; exact c28; exact c29)) (by decide) ?_
    exact hnx k n v w o z G (by omega) (by omega) (Ks _ _ _ hS) ⟨hT, hM, hO⟩
theorem wn_RL_8 : zNw RL 8 5 dT 6 := ⟨RX5, TX5, tyX5, rfl, by decide, wu_5, tyX5_ok, (zgt_at 44 (by decide +kernel) (by decide +kernel)), (zgt_at 45 (by decide +kernel) (by decide +kernel)), (zgt_at 29 (by decide +kernel) (by decide +kernel)), by decide +kernel⟩
theorem wn_RL_99 : zNw RL 99 6 dM 13 := ⟨RX6, TX6, tyX6, rfl, by decide, wu_6, tyX6_ok, (zgt_at 920 (by decide +kernel) (by decide +kernel)), (zgt_at 921 (by decide +kernel) (by decide +kernel)), (zgt_at 37 (by decide +kernel) (by decide +kernel)), by decide +kernel⟩
/-- the law from its entry, for any relation of class and model that every call keeps -/
theorem lw_start {Sim : Nat → TT → MT → Prop} (K : ∀ i, i ≤ 2048 → KLs (Sim i) (Sim (i + 4))) (Ks : ∀ i v w, Sim i v w → Sim (i + 4) v w) (hSim : P_M_fresh (fun _ => 0) (fun w => Sim 0 T0 (M_set_now M00 w))) {p : Program} {e : Env} {s : State} {m : MethodId} {below : List Frame} {meth : Method} {c : Code} (l : Launch) (hflags : l.flags = flags0) {b L : Nat} {xs : Nat → Int32} (hL : L ≤ 2048) (C0 : lw_At p s m meth c b L xs) : W p l e room_1 s m #[Value.ref b] below meth c s.heap [] 0 0 (lw_Z below #[Value.ref b] s) (entryFrame m ([Value.ref b] : List Value).toArray 7) := by
  obtain ⟨hx, hbc, hret, hml, hown, hts, hX, hb, hlk, hg⟩ := C0
  obtain ⟨D, sa, hW⟩ := zW_start hts hg
  have hfl : l.stackTraces = false := by
    show (!l.flags.contains noTraceFlag) = false
    rw [hflags]
    decide +kernel
  have hl := lv_entry [Value.ref b] (n := 7) (Nat.le_of_ble_eq_true rfl)
  rw [lg_entry_eq]
  generalize (lg_sl [Value.ref b] ++ List.replicate (7 - (lg_sl [Value.ref b]).length) Slot.unset).toArray = ls at hl ⊢
  have O : zO p l s m #[.ref b] c D s.heap.size sa 7 cL_law RL := ⟨hx, hbc, hml, hown, fun w hw => hts w (List.mem_filter.mp hw).1, hW, Nat.le_refl _, hfl⟩
  have hlv : zlv ls 7 [some (.ref b), none, none, none, none, none, none] := hl
  have main : zT p l e room_1 s m #[.ref b] below meth c (lw_Z below #[.ref b] s) D s.heap.size 7 0 0 0 [] [some (.ref b), none, none, none, none, none, none] s.heap.size (fun _ => none) := by
    generalize hB : s.heap.size = B at O
    refine y_new O wn_RL_8 dL_law_0 (Nat.le_of_ble_eq_true rfl) (Nat.le_of_ble_eq_true rfl) (fun G1 h1 => ?_)
    refine z_dup O dL_law_3 rfl ?_
    refine z_callIv (As := []) (st := [.ref B]) O (s_T_init hfl h1.1) wy_X5_init wl_RL_98 dL_law_4 rfl rfl ⟨(Nat.le_of_ble_eq_true rfl), (Nat.le_of_ble_eq_true rfl)⟩ (Nat.le_of_ble_eq_true rfl) ⟨(Nat.le_of_ble_eq_true rfl), (Nat.le_of_ble_eq_true rfl)⟩ (fun z2 G2 h2 => ?_)
    obtain ⟨rfl, t2, f2⟩ := h2
    refine z_astore_n (L' := [some (.ref b), some (.ref B), none, none, none, none, none]) O dL_law_7 rfl (by decide) rfl ?_
    refine y_new O wn_RL_99 dL_law_8 (Nat.le_of_ble_eq_true rfl) (Nat.le_of_ble_eq_true rfl) (fun G3 h3 => ?_)
    refine z_dup O dL_law_11 rfl ?_
    refine z_callIv (As := []) (st := [.ref (B + 475)]) O (s_M_init hfl h3.1 hSim) wy_X6_init wl_RL_101 dL_law_12 rfl rfl ⟨(Nat.le_of_ble_eq_true rfl), (Nat.le_of_ble_eq_true rfl)⟩ (Nat.le_of_ble_eq_true rfl) ⟨(Nat.le_of_ble_eq_true rfl), (Nat.le_of_ble_eq_true rfl)⟩ (fun z4 G4 h4 => ?_)
    obtain ⟨rfl, w, m4, f4, hS⟩ := h4
    refine z_astore_n (L' := [some (.ref b), some (.ref B), some (.ref (B + 475)), none, none, none, none]) O dL_law_15 rfl (by decide) rfl ?_
    refine z_iconst (v := 1) O dL_law_16 (by decide) ?_
    refine y_newa (kd := 103) (t0 := 3) (N := 1) (ty := .long) O (by decide) (by decide) rfl rfl (fun q => q) wa_long dL_law_17 (by decide) (by decide) (Nat.le_of_ble_eq_true rfl) (Nat.le_of_ble_eq_true rfl) (Nat.le_of_ble_eq_true rfl) rfl (fun G5 h5 => ?_)
    refine z_astore_n (L' := [some (.ref b), some (.ref B), some (.ref (B + 475)), some (.ref (B + 475 + 8)), none, none, none]) O dL_law_19 rfl (by decide) rfl ?_
    refine z_iconst (v := 0) O dL_law_20 (by decide) ?_
    refine z_istore (L' := [some (.ref b), some (.ref B), some (.ref (B + 475)), some (.ref (B + 475 + 8)), some (.int 0), none, none]) O dL_law_21 (by decide) rfl ?_
    have t5 : TA B T0 G5 := TA.eq t2 (fun q g1 g2 => (h5.2 q (by omega)).trans ((f4 q (by omega)).trans (h3.2 q (by omega))))
    have m5 : MA (B + 475) (M_set_now M00 w) G5 := MA.eq m4 (fun q g1 g2 => h5.2 q (by omega))
    exact lw_loop hfl O (by omega) hret hlk K Ks hL hX hb (by omega) 4096 0 _ _ _ T0 (M_set_now M00 w) (fun _ => 0) G5 (by omega) (by omega) (Nat.le_of_ble_eq_true rfl) (Nat.le_of_ble_eq_true rfl) hS ⟨t5, m5, h5.1⟩
  exact main s.heap [] ls ⟨rfl, fun a e h => nomatch h⟩ va_S.rf hlv

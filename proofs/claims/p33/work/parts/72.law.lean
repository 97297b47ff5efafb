theorem wy_X5_append : zYw yX5_append cX5_append 2 (some .int) 1 := ⟨(zgt_at 862 (by decide +kernel) (by decide +kernel)), (zgt_at 5 (by decide +kernel) (by decide +kernel)), by decide +kernel, by decide +kernel, by decide +kernel⟩
theorem wl_RL_9 : zLv RL 9 yX5_append := ⟨(zgt_at 859 (by decide +kernel) (by decide +kernel)), (zgt_at 860 (by decide +kernel) (by decide +kernel)), (zgt_at 861 (by decide +kernel) (by decide +kernel))⟩
theorem wc_RL_17 : Cond.constantLong RL 17 (-9000000000000000002) ∈ zgt := (zgt_at 617 (by decide +kernel) (by decide +kernel))
theorem wc_RL_21 : Cond.constantLong RL 21 (-9000000000000000003) ∈ zgt := (zgt_at 528 (by decide +kernel) (by decide +kernel))
theorem wy_X5_load : zYw yX5_load cX5_load 2 (some .int) 0 := ⟨(zgt_at 265 (by decide +kernel) (by decide +kernel)), (zgt_at 5 (by decide +kernel) (by decide +kernel)), by decide +kernel, by decide +kernel, by decide +kernel⟩
theorem wl_RL_23 : zLv RL 23 yX5_load := ⟨(zgt_at 262 (by decide +kernel) (by decide +kernel)), (zgt_at 263 (by decide +kernel) (by decide +kernel)), (zgt_at 264 (by decide +kernel) (by decide +kernel))⟩
theorem wy_X5_about : zYw yX5_about cX5_about 2 (some .int) 1 := ⟨(zgt_at 592 (by decide +kernel) (by decide +kernel)), (zgt_at 5 (by decide +kernel) (by decide +kernel)), by decide +kernel, by decide +kernel, by decide +kernel⟩
theorem wl_RL_27 : zLv RL 27 yX5_about := ⟨(zgt_at 589 (by decide +kernel) (by decide +kernel)), (zgt_at 590 (by decide +kernel) (by decide +kernel)), (zgt_at 591 (by decide +kernel) (by decide +kernel))⟩
theorem wy_X5_rowOf : zYw yX5_rowOf cX5_rowOf 3 (some .int) 2 := ⟨(zgt_at 667 (by decide +kernel) (by decide +kernel)), (zgt_at 5 (by decide +kernel) (by decide +kernel)), by decide +kernel, by decide +kernel, by decide +kernel⟩
theorem wl_RL_30 : zLv RL 30 yX5_rowOf := ⟨(zgt_at 664 (by decide +kernel) (by decide +kernel)), (zgt_at 665 (by decide +kernel) (by decide +kernel)), (zgt_at 666 (by decide +kernel) (by decide +kernel))⟩
theorem wc_RL_36 : Cond.constantLong RL 36 (-9000000000000000001) ∈ zgt := (zgt_at 568 (by decide +kernel) (by decide +kernel))
theorem wy_X5_segmentOf : zYw yX5_segmentOf cX5_segmentOf 3 (some .int) 2 := ⟨(zgt_at 689 (by decide +kernel) (by decide +kernel)), (zgt_at 5 (by decide +kernel) (by decide +kernel)), by decide +kernel, by decide +kernel, by decide +kernel⟩
theorem wl_RL_38 : zLv RL 38 yX5_segmentOf := ⟨(zgt_at 686 (by decide +kernel) (by decide +kernel)), (zgt_at 687 (by decide +kernel) (by decide +kernel)), (zgt_at 688 (by decide +kernel) (by decide +kernel))⟩
theorem wy_X5_readerOf : zYw yX5_readerOf cX5_readerOf 4 (some .int) 2 := ⟨(zgt_at 642 (by decide +kernel) (by decide +kernel)), (zgt_at 5 (by decide +kernel) (by decide +kernel)), by decide +kernel, by decide +kernel, by decide +kernel⟩
theorem wl_RL_41 : zLv RL 41 yX5_readerOf := ⟨(zgt_at 639 (by decide +kernel) (by decide +kernel)), (zgt_at 640 (by decide +kernel) (by decide +kernel)), (zgt_at 641 (by decide +kernel) (by decide +kernel))⟩
theorem wy_X5_table : zYw yX5_table cX5_table 4 (some .int) 2 := ⟨(zgt_at 660 (by decide +kernel) (by decide +kernel)), (zgt_at 5 (by decide +kernel) (by decide +kernel)), by decide +kernel, by decide +kernel, by decide +kernel⟩
theorem wl_RL_44 : zLv RL 44 yX5_table := ⟨(zgt_at 657 (by decide +kernel) (by decide +kernel)), (zgt_at 658 (by decide +kernel) (by decide +kernel)), (zgt_at 659 (by decide +kernel) (by decide +kernel))⟩
theorem wy_X5_base : zYw yX5_base cX5_base 2 (some .int) 1 := ⟨(zgt_at 624 (by decide +kernel) (by decide +kernel)), (zgt_at 5 (by decide +kernel) (by decide +kernel)), by decide +kernel, by decide +kernel, by decide +kernel⟩
theorem wl_RL_47 : zLv RL 47 yX5_base := ⟨(zgt_at 621 (by decide +kernel) (by decide +kernel)), (zgt_at 622 (by decide +kernel) (by decide +kernel)), (zgt_at 623 (by decide +kernel) (by decide +kernel))⟩
theorem wy_X5_setting : zYw yX5_setting cX5_setting 2 (some .int) 1 := ⟨(zgt_at 634 (by decide +kernel) (by decide +kernel)), (zgt_at 5 (by decide +kernel) (by decide +kernel)), by decide +kernel, by decide +kernel, by decide +kernel⟩
theorem wl_RL_50 : zLv RL 50 yX5_setting := ⟨(zgt_at 631 (by decide +kernel) (by decide +kernel)), (zgt_at 632 (by decide +kernel) (by decide +kernel)), (zgt_at 633 (by decide +kernel) (by decide +kernel))⟩
theorem wy_X5_write : zYw yX5_write cX5_write 4 (some .int) 3 := ⟨(zgt_at 704 (by decide +kernel) (by decide +kernel)), (zgt_at 5 (by decide +kernel) (by decide +kernel)), by decide +kernel, by decide +kernel, by decide +kernel⟩
theorem wl_RL_53 : zLv RL 53 yX5_write := ⟨(zgt_at 701 (by decide +kernel) (by decide +kernel)), (zgt_at 702 (by decide +kernel) (by decide +kernel)), (zgt_at 703 (by decide +kernel) (by decide +kernel))⟩
theorem wy_X5_join : zYw yX5_join cX5_join 4 (some .int) 3 := ⟨(zgt_at 729 (by decide +kernel) (by decide +kernel)), (zgt_at 5 (by decide +kernel) (by decide +kernel)), by decide +kernel, by decide +kernel, by decide +kernel⟩
theorem wl_RL_57 : zLv RL 57 yX5_join := ⟨(zgt_at 726 (by decide +kernel) (by decide +kernel)), (zgt_at 727 (by decide +kernel) (by decide +kernel)), (zgt_at 728 (by decide +kernel) (by decide +kernel))⟩
theorem wy_X5_read : zYw yX5_read cX5_read 3 (some .int) 2 := ⟨(zgt_at 737 (by decide +kernel) (by decide +kernel)), (zgt_at 5 (by decide +kernel) (by decide +kernel)), by decide +kernel, by decide +kernel, by decide +kernel⟩
theorem wl_RL_61 : zLv RL 61 yX5_read := ⟨(zgt_at 734 (by decide +kernel) (by decide +kernel)), (zgt_at 735 (by decide +kernel) (by decide +kernel)), (zgt_at 736 (by decide +kernel) (by decide +kernel))⟩
theorem wy_X5_leave : zYw yX5_leave cX5_leave 2 (some .int) 1 := ⟨(zgt_at 744 (by decide +kernel) (by decide +kernel)), (zgt_at 5 (by decide +kernel) (by decide +kernel)), by decide +kernel, by decide +kernel, by decide +kernel⟩
theorem wl_RL_64 : zLv RL 64 yX5_leave := ⟨(zgt_at 741 (by decide +kernel) (by decide +kernel)), (zgt_at 742 (by decide +kernel) (by decide +kernel)), (zgt_at 743 (by decide +kernel) (by decide +kernel))⟩
theorem wy_X5_hold : zYw yX5_hold cX5_hold 3 (some .int) 2 := ⟨(zgt_at 751 (by decide +kernel) (by decide +kernel)), (zgt_at 5 (by decide +kernel) (by decide +kernel)), by decide +kernel, by decide +kernel, by decide +kernel⟩
theorem wl_RL_67 : zLv RL 67 yX5_hold := ⟨(zgt_at 748 (by decide +kernel) (by decide +kernel)), (zgt_at 749 (by decide +kernel) (by decide +kernel)), (zgt_at 750 (by decide +kernel) (by decide +kernel))⟩
theorem wy_X5_set : zYw yX5_set cX5_set 3 (some .int) 2 := ⟨(zgt_at 758 (by decide +kernel) (by decide +kernel)), (zgt_at 5 (by decide +kernel) (by decide +kernel)), by decide +kernel, by decide +kernel, by decide +kernel⟩
theorem wl_RL_71 : zLv RL 71 yX5_set := ⟨(zgt_at 755 (by decide +kernel) (by decide +kernel)), (zgt_at 756 (by decide +kernel) (by decide +kernel)), (zgt_at 757 (by decide +kernel) (by decide +kernel))⟩
theorem wy_X5_ticks : zYw yX5_ticks cX5_ticks 2 (some .int) 1 := ⟨(zgt_at 789 (by decide +kernel) (by decide +kernel)), (zgt_at 5 (by decide +kernel) (by decide +kernel)), by decide +kernel, by decide +kernel, by decide +kernel⟩
theorem wl_RL_74 : zLv RL 74 yX5_ticks := ⟨(zgt_at 786 (by decide +kernel) (by decide +kernel)), (zgt_at 787 (by decide +kernel) (by decide +kernel)), (zgt_at 788 (by decide +kernel) (by decide +kernel))⟩
theorem wy_X5_undo : zYw yX5_undo cX5_undo 1 (some .int) 0 := ⟨(zgt_at 903 (by decide +kernel) (by decide +kernel)), (zgt_at 5 (by decide +kernel) (by decide +kernel)), by decide +kernel, by decide +kernel, by decide +kernel⟩
theorem wl_RL_77 : zLv RL 77 yX5_undo := ⟨(zgt_at 900 (by decide +kernel) (by decide +kernel)), (zgt_at 901 (by decide +kernel) (by decide +kernel)), (zgt_at 902 (by decide +kernel) (by decide +kernel))⟩
theorem wy_X5_truth : zYw yX5_truth cX5_truth 4 (some .int) 3 := ⟨(zgt_at 796 (by decide +kernel) (by decide +kernel)), (zgt_at 5 (by decide +kernel) (by decide +kernel)), by decide +kernel, by decide +kernel, by decide +kernel⟩
theorem wl_RL_80 : zLv RL 80 yX5_truth := ⟨(zgt_at 793 (by decide +kernel) (by decide +kernel)), (zgt_at 794 (by decide +kernel) (by decide +kernel)), (zgt_at 795 (by decide +kernel) (by decide +kernel))⟩
theorem wy_X5_lostIn : zYw yX5_lostIn cX5_lostIn 4 (some .int) 1 := ⟨(zgt_at 765 (by decide +kernel) (by decide +kernel)), (zgt_at 5 (by decide +kernel) (by decide +kernel)), by decide +kernel, by decide +kernel, by decide +kernel⟩
theorem wl_RL_83 : zLv RL 83 yX5_lostIn := ⟨(zgt_at 762 (by decide +kernel) (by decide +kernel)), (zgt_at 763 (by decide +kernel) (by decide +kernel)), (zgt_at 764 (by decide +kernel) (by decide +kernel))⟩
theorem wy_X5_ifFree : zYw yX5_ifFree cX5_ifFree 3 (some .int) 1 := ⟨(zgt_at 781 (by decide +kernel) (by decide +kernel)), (zgt_at 5 (by decide +kernel) (by decide +kernel)), by decide +kernel, by decide +kernel, by decide +kernel⟩
theorem wl_RL_86 : zLv RL 86 yX5_ifFree := ⟨(zgt_at 778 (by decide +kernel) (by decide +kernel)), (zgt_at 779 (by decide +kernel) (by decide +kernel)), (zgt_at 780 (by decide +kernel) (by decide +kernel))⟩
theorem wy_X5_leastRoom : zYw yX5_leastRoom cX5_leastRoom 3 (some .int) 1 := ⟨(zgt_at 810 (by decide +kernel) (by decide +kernel)), (zgt_at 5 (by decide +kernel) (by decide +kernel)), by decide +kernel, by decide +kernel, by decide +kernel⟩
theorem wl_RL_89 : zLv RL 89 yX5_leastRoom := ⟨(zgt_at 807 (by decide +kernel) (by decide +kernel)), (zgt_at 808 (by decide +kernel) (by decide +kernel)), (zgt_at 809 (by decide +kernel) (by decide +kernel))⟩
theorem wy_X5_runScript : zYw yX5_runScript cX5_runScript 7 (some .int) 2 := ⟨(zgt_at 822 (by decide +kernel) (by decide +kernel)), (zgt_at 5 (by decide +kernel) (by decide +kernel)), by decide +kernel, by decide +kernel, by decide +kernel⟩
theorem wl_RL_92 : zLv RL 92 yX5_runScript := ⟨(zgt_at 819 (by decide +kernel) (by decide +kernel)), (zgt_at 820 (by decide +kernel) (by decide +kernel)), (zgt_at 821 (by decide +kernel) (by decide +kernel))⟩
theorem wy_X5_simulate : zYw yX5_simulate cX5_simulate 9 (some .int) 2 := ⟨(zgt_at 848 (by decide +kernel) (by decide +kernel)), (zgt_at 5 (by decide +kernel) (by decide +kernel)), by decide +kernel, by decide +kernel, by decide +kernel⟩
theorem wl_RL_96 : zLv RL 96 yX5_simulate := ⟨(zgt_at 845 (by decide +kernel) (by decide +kernel)), (zgt_at 846 (by decide +kernel) (by decide +kernel)), (zgt_at 847 (by decide +kernel) (by decide +kernel))⟩
theorem wy_X5_save : zYw yX5_save cX5_save 3 (some .int) 1 := ⟨(zgt_at 536 (by decide +kernel) (by decide +kernel)), (zgt_at 5 (by decide +kernel) (by decide +kernel)), by decide +kernel, by decide +kernel, by decide +kernel⟩
theorem wl_RL_100 : zLv RL 100 yX5_save := ⟨(zgt_at 533 (by decide +kernel) (by decide +kernel)), (zgt_at 534 (by decide +kernel) (by decide +kernel)), (zgt_at 535 (by decide +kernel) (by decide +kernel))⟩
theorem wy_X5_restore : zYw yX5_restore cX5_restore 2 (some .int) 1 := ⟨(zgt_at 575 (by decide +kernel) (by decide +kernel)), (zgt_at 5 (by decide +kernel) (by decide +kernel)), by decide +kernel, by decide +kernel, by decide +kernel⟩
theorem wl_RL_103 : zLv RL 103 yX5_restore := ⟨(zgt_at 572 (by decide +kernel) (by decide +kernel)), (zgt_at 573 (by decide +kernel) (by decide +kernel)), (zgt_at 574 (by decide +kernel) (by decide +kernel))⟩
section ZLW
variable {p : Program} {l : Launch} {e : Env} {R : Room} {s : State} {m : MethodId} {args : Array Value} {below : List Frame} {meth : Method} {c : Code} {Q : State → Prop} {D : zD} {B nL : Nat} {sa : Nat → Nat} {cc : ByteArray} {own : String} {k n pc z : Nat} {st : List Value} {L : zL} {G : zG}
def zwsh (y : MethodName) (cy : ByteArray) (maxL : Nat) (ret : Option FieldType) (hh : List (Nat × Nat × Nat × Nat)) : List Cond := Cond.codeWith y cy maxL ret hh :: zgt
/-- a contract of a method with an exception table -/
def zSh (l : Launch) (D : zD) (B : Nat) (sa : Nat → Nat) (y : MethodName) (cy : ByteArray) (maxL : Nat) (ret : Option FieldType) (hh : List (Nat × Nat × Nat × Nat)) (fr lo mc ms : Nat) (av : List Value) (z : Nat) (G : zG) (Po : Option Value → Nat → zG → Prop) : Prop :=
  Met l y (zwsh y cy maxL ret hh) (zrm fr lo mc ms) (zPc D B sa z G av) (zQ D B Po) mc ms (zA B)
def zYh (y : MethodName) (cy : ByteArray) (maxL : Nat) (ret : Option FieldType) (hh : List (Nat × Nat × Nat × Nat)) (np : Nat) : Prop := Cond.codeWith y cy maxL ret hh ∈ zgt ∧ Cond.initialized y.cls ∈ zgt ∧ (y.cls ≠ "java/lang/invoke/MethodHandle" ∧ y.cls ≠ "java/lang/invoke/VarHandle" ∧ (parseMethodDescriptor y.desc).map (fun d => d.parameters.length) = some np)
theorem z_ofH {y : MethodName} {cy : ByteArray} {maxL fr lo mc ms : Nat} {ret : Option FieldType} {hh : List (Nat × Nat × Nat × Nat)} {av : List Value} {Po : Option Value → Nat → zG → Prop} (hy : plainName y.cls = true) (hfl : l.stackTraces = false) (L0 : zL) (hL0 : zp L0 0 = lv_args 0 av) (hlen : (lg_sl av).length ≤ maxL)
    (body : ∀ (p : Program) (e : Env) (s : State) (m : MethodId) (args : Array Value) (below : List Frame) (meth : Method) (c : Code), zO p l s m args c D B sa maxL cy y.cls → c.exceptionTable.toList = tableOf hh → meth.sig.returnType = ret → meth.locks = false → zT p l e (zrm fr lo mc ms) s m args below meth c (zEnd below D B Po args s mc ms) D B maxL 0 0 0 [] L0 z G) : zSh l D B sa y cy maxL ret hh fr lo mc ms av z G Po := by
  unfold zSh Met
  refine MetFree.of_bodyS (code := cy) (maxLocals := maxL) (ret := ret) hy ?_ ?_
  · intro args s m h hn
    obtain ⟨m9, meth, c, hn9, h1, h2, h3, h4, -, h5, h6, -⟩ := Cond.codeWith_spec (atoms_spec (ws := zwsh y cy maxL ret hh) h _ List.mem_cons_self)
    cases hn.symm.trans hn9
    exact ⟨meth, c, h1, h2, h3, h4, h5, h6⟩
  · intro p e s m args below meth c s₁ Bd hml hv _
    have hh0 : s₁.heap = s.heap := by rw [Bd.state]; rfl
    obtain ⟨rfl, hR, hW, hB⟩ := hv
    have hts := atoms_spec (ws := zwsh y cy maxL ret hh) Bd.pre
    have hl := lv_entry av (n := maxL) hlen
    have K : W p l e (zrm fr lo mc ms) s m av.toArray below meth c s.heap [] 0 0 (zEnd below D B Po av.toArray s mc ms) (entryFrame m av.toArray maxL) := by
      rw [lg_entry_eq]
      generalize (lg_sl av ++ List.replicate (maxL - (lg_sl av).length) Slot.unset).toArray = ls at hl ⊢
      rw [← hL0] at hl
      exact body p e s m _ below meth c ⟨Bd.exec, Bd.bytes, hml, findClass_of_methodNamed Bd.named, fun w hw => hts w (List.mem_cons_of_mem _ hw), hW, hB, hfl⟩ (vx_table (x := y) Bd (hts _ List.mem_cons_self)) Bd.returns Bd.notSynchronized s.heap [] ls hR va_S.rf hl
    obtain ⟨t, a1, o, b1, b2, b3⟩ := K s₁ hh0 (Stand.of_body Bd)
    exact ⟨t, o, a1, b1, b2, ⟨b3.1, b3.2⟩⟩
theorem z_callHl {idx maxL fr lo mc ms np : Nat} {y : MethodName} {cy : ByteArray} {ret : Option FieldType} {hh : List (Nat × Nat × Nat × Nat)} {As st0 : List Value} {S : Int64 → Nat → zG → Prop} (O : zO p l s m args c D B sa nL cc own) (hM : zSh l D B sa y cy maxL ret hh fr lo mc ms As z G (zRl S)) (hY : zYh y cy maxL ret hh np) (hLk : zLs own idx y) (hd : decode cc pc = .ok (.invokestatic idx, 3)) (hst : st0 = As.reverse ++ st) (hnp : As.length = np) (hrm : fr + 1 ≤ R.frames ∧ 8 + (maxL + 11) + lo ≤ R.locals) (hW : (st.map fun v => v.category).sum ≤ 8) (hf : k + mc ≤ R.cells ∧ n + ms ≤ R.slots)
    (kk : ∀ (r : Int64) (z' : Nat) (G' : zG), S r z' G' → zT p l e R s m args below meth c Q D B nL (k + mc) (n + ms) (pc + 3) (.long r :: st) L z' G') : zT p l e R s m args below meth c Q D B nL k n pc st0 L z G := by
  intro H locs ls hR hS hl
  subst hst
  have hT : GoodIn zgt (va_wsS own idx y (zwsh y cy maxL ret hh)) := by
    intro w hw
    have hm : w ∈ zgt := by
      unfold va_wsS at hw
      rcases List.mem_append.mp hw with h | h
      · rcases List.mem_cons.mp h with rfl | h
        · exact hLk.1
        · rcases List.mem_cons.mp h with rfl | h
          · exact hLk.2
          · rcases List.mem_cons.mp h with rfl | h
            · exact hY.2.1
            · exact absurd h List.not_mem_nil
      · rcases List.mem_cons.mp h with rfl | h
        · exact hY.1
        · exact h
    exact ⟨hm, good_of_word (zgt_good w hm)⟩
  exact z_fin (vx_runSW (rest := st) (As := As) O.cf hM (vx_cwSW np O.2.2.2.2.1 hT rfl rfl rfl hY.2.2 hrm) ⟨zPc_blind, zPre O hR hS _⟩ rfl hnp hl.1 rfl (lv_room hW) hd hf) hS hl (fun v z' G' ⟨r, hv, h⟩ => by subst hv; exact kk r z' G' h)
theorem z_catch {E : String} (pre : List ExceptionTableEntry) (x : ExceptionTableEntry) (suf : List ExceptionTableEntry) (O : zO p l s m args c D B sa nL cc own) (hsplit : c.exceptionTable.toList = pre ++ x :: suf)
    (hpass : ∀ z ∈ pre, covers z pc = false ∨ (z.catchType ≠ 0 ∧ ∃ nm : String, Cond.classLink own z.catchType nm ∈ zgt ∧ (E, nm) ∈ zNc)) (hx : covers x pc = true) (h0 : x.catchType ≠ 0) (hlink : Cond.classLink own x.catchType E ∈ zgt) (hE : E ∈ zCs)
    (kk : ∀ q : Nat, zT p l e R s m args below meth c Q D B nL k n x.handlerPc [.ref q] L z G) : zTx p l e R s m args below meth c Q D B nL k n pc E st L z G := by
  intro H locs ls ce q hR hS hl hce hcv hcl
  refine vx_catch O.2.2.2.1 pre x suf hsplit (fun z9 hz => ?_) hx h0 (O.w hlink) (va_Nw.use rfl (O.2.2.2.2.2.1.2.2.2.2.2.2.2.2.1 E hE)) hce hcv hcl (kk q H locs ls hR hS hl)
  rcases hpass z9 hz with h | ⟨h1, nm, h2, h3⟩
  · exact Or.inl h
  · exact Or.inr ⟨h1, nm, O.w h2, O.2.2.2.2.2.1.2.2.2.2.1 _ h3⟩
theorem zT_eq {pc' : Nat} (h : pc' = pc) (kk : zT p l e R s m args below meth c Q D B nL k n pc' st L z G) : zT p l e R s m args below meth c Q D B nL k n pc st L z G := h ▸ kk
end ZLW
theorem lk_weak {k n c c' Y Y' A B : Nat} (h : k + (c + Y) ≤ A ∧ n + 6 * (c + Y) ≤ B) (h1 : c' ≤ c) (h2 : Y' ≤ Y) : k + (c' + Y') ≤ A ∧ n + 6 * (c' + Y') ≤ B := by omega
theorem lk_step {k n c Y A B : Nat} (w c' : Nat) (h : k + (c + Y) ≤ A ∧ n + 6 * (c + Y) ≤ B) (h1 : w + c' ≤ c) : (k + w) + (c' + Y) ≤ A ∧ (n + 6 * w) + 6 * (c' + Y) ≤ B := by omega
theorem lk_k {k n X A B : Nat} (h : k + X ≤ A ∧ n + 6 * X ≤ B) : k ≤ A := by omega
theorem lk_n {k n X A B : Nat} (h : k + X ≤ A ∧ n + 6 * X ≤ B) : n ≤ B := by omega
theorem lk_loop {k n c Y Y' A B nm b I base : Nat} (h : k + (c + Y) ≤ A ∧ n + 6 * (c + Y) ≤ B) (hb : nm ≤ b) (h1 : b * I + base ≤ c) (h2 : Y' ≤ Y) : k + (base + (nm * I + Y')) ≤ A ∧ n + 6 * (base + (nm * I + Y')) ≤ B := by
  have h3 := Nat.mul_le_mul_right I hb
  omega
theorem lk_succ {k n n1 Y A B I base : Nat} (h : k + (base + ((n1 + 1) * I + Y)) ≤ A ∧ n + 6 * (base + ((n1 + 1) * I + Y)) ≤ B) : k + ((base + I) + (n1 * I + Y)) ≤ A ∧ n + 6 * ((base + I) + (n1 * I + Y)) ≤ B := by
  have h3 : (n1 + 1) * I = n1 * I + I := Nat.succ_mul n1 I
  omega
abbrev zand (x y : Int32) : Int32 := x &&& y
abbrev zshr (x y : Int32) : Int32 := x >>> (y &&& 31)
section ZLS
variable {p : Program} {l : Launch} {e : Env} {R : Room} {s : State} {m : MethodId} {args : Array Value} {below : List Frame} {meth : Method} {c : Code} {Q : State → Prop} {D : zD} {B nL : Nat} {sa : Nat → Nat} {cc : ByteArray} {own : String} {k n pc z : Nat} {st : List Value} {L : zL} {G : zG}
theorem z_ishr {x y : Int32} (O : zO p l s m args c D B sa nL cc own) (hd : decode cc pc = .ok (.ishr, 1)) (kk : zT p l e R s m args below meth c Q D B nL k n (pc + 1) (.int (zshr x y) :: st) L z G) : zT p l e R s m args below meth c Q D B nL k n pc (.int y :: .int x :: st) L z G := fun H locs ls hR hS hl => lv_ishr O.1 O.2.1 hd (kk H locs ls hR hS hl)
end ZLS
theorem wk_RL_19 : Cond.classLink RL 19 "java/lang/IllegalStateException" ∈ zgt := (zgt_at 261 (by decide +kernel) (by decide +kernel))
theorem wk_RL_34 : Cond.classLink RL 34 "java/lang/IndexOutOfBoundsException" ∈ zgt := (zgt_at 532 (by decide +kernel) (by decide +kernel))
theorem wk_RL_15 : Cond.classLink RL 15 "java/lang/IllegalArgumentException" ∈ zgt := (zgt_at 588 (by decide +kernel) (by decide +kernel))
theorem dL_append_0 : decode cL_append 0 = .ok (.aload_n 0, 1) := by decide +kernel
theorem dL_append_1 : decode cL_append 1 = .ok (.iload_n 1, 1) := by decide +kernel
theorem dL_append_2 : decode cL_append 2 = .ok (.invokevirtual 9, 3) := by decide +kernel
theorem dL_append_5 : decode cL_append 5 = .ok (.i2l, 1) := by decide +kernel
theorem dL_append_6 : decode cL_append 6 = .ok (.lreturn, 1) := by decide +kernel
theorem dL_append_7 : decode cL_append 7 = .ok (.astore_n 2, 1) := by decide +kernel
theorem dL_append_8 : decode cL_append 8 = .ok (.ldc2_w 17, 3) := by decide +kernel
theorem dL_append_11 : decode cL_append 11 = .ok (.lreturn, 1) := by decide +kernel
theorem dL_append_12 : decode cL_append 12 = .ok (.astore_n 2, 1) := by decide +kernel
theorem dL_append_13 : decode cL_append 13 = .ok (.ldc2_w 21, 3) := by decide +kernel
theorem dL_append_16 : decode cL_append 16 = .ok (.lreturn, 1) := by decide +kernel
abbrev hL_append : List (Nat × Nat × Nat × Nat) := [(0, 6, 7, 15), (0, 6, 12, 19)]
theorem wh_L_append : zYh yL_append cL_append 3 (some .long) hL_append 2 := ⟨(zgt_at 858 (by decide +kernel) (by decide +kernel)), (zgt_at 4 (by decide +kernel) (by decide +kernel)), by decide +kernel, by decide +kernel, by decide +kernel⟩
def P_LAW_append (x1 : Int32) (v0 : TT) (Q : Int64 → TT → Prop) : Prop := P_T_append x1 v0 (fun E v => (E = "java/lang/IllegalArgumentException" → Q (-9000000000000000002) v) ∧ (E = "java/lang/IllegalStateException" → Q (-9000000000000000003) v) ∧ ((¬ E = "java/lang/IllegalArgumentException" ∧ ¬ E = "java/lang/IllegalStateException") → False)) (fun r v => Q (Int32.toInt64 r) v)
set_option maxRecDepth 100000 in
theorem s_LAW_append {l : Launch} {D : zD} {B : Nat} {sa : Nat → Nat} (hfl : l.stackTraces = false) {z : Nat} {G : zG} {b0 : Nat} {x1 : Int32} {v0 : TT} {Q : Int64 → TT → Prop} (h0 : TA b0 v0 G) (h : P_LAW_append x1 v0 Q) : zSh l D B sa yL_append cL_append 3 (some .long) hL_append 7 111 1 6 [.ref b0, .int x1] z G (zRl fun r z' G' => ∃ w, TA b0 w G' ∧ Fr b0 475 G G' ∧ Q r w) := by
  unfold P_LAW_append at h
  refine z_ofH (by decide +kernel) hfl [some (.ref b0), some (.int x1), none] rfl (Nat.le_of_ble_eq_true rfl) (fun p e s m args below meth c O hT hret hlk => ?_)
  have O : zO p l s m args c D B sa 3 cL_append RL := O
  refine z_aload_n O dL_append_0 rfl rfl ?_
  refine z_iload_n O dL_append_1 rfl rfl ?_
  refine z_callXi (As := [.int x1]) (st := []) O (s_T_append hfl h0 h) wy_X5_append wl_RL_9 dL_append_2 rfl rfl (T_obj h0) ⟨by decide, rfl⟩ ⟨(Nat.le_of_ble_eq_true rfl), (Nat.le_of_ble_eq_true rfl)⟩ (Nat.le_of_ble_eq_true rfl) ⟨(Nat.le_of_ble_eq_true rfl), (Nat.le_of_ble_eq_true rfl)⟩ (fun E z1 G1 hx => ?_) (fun r z1 G1 hq => ?_)
  · obtain ⟨w, k1, k2, hx⟩ := hx
    by_cases e0 : E = "java/lang/IllegalArgumentException"
    · have hc := hx.1 e0
      subst e0
      refine z_catch [] ⟨0, 6, 7, 15⟩ [⟨0, 6, 12, 19⟩] O (hT.trans rfl) (fun z9 hz => absurd hz List.not_mem_nil) (by decide) (by decide) wk_RL_15 (by decide) (fun q9 => ?_)
      refine z_astore_n (L' := [some (.ref b0), some (.int x1), some (.ref q9)]) O dL_append_7 rfl (by decide) rfl ?_
      refine z_ldc2 (v := (-9000000000000000002)) O wc_RL_17 dL_append_8 ?_
      exact z_lret O hret hlk dL_append_11 (Nat.le_of_ble_eq_true rfl) (Nat.le_of_ble_eq_true rfl) ⟨_, rfl, w, k1, k2, hc⟩
    · skip
      by_cases e1 : E = "java/lang/IllegalStateException"
      · have hc := hx.2.1 e1
        subst e1
        refine z_catch [⟨0, 6, 7, 15⟩] ⟨0, 6, 12, 19⟩ [] O (hT.trans rfl) (fun z9 hz => by cases List.mem_singleton.mp hz; exact Or.inr ⟨by decide, _, wk_RL_15, by decide⟩) (by decide) (by decide) wk_RL_19 (by decide) (fun q9 => ?_)
        refine z_astore_n (L' := [some (.ref b0), some (.int x1), some (.ref q9)]) O dL_append_12 rfl (by decide) rfl ?_
        refine z_ldc2 (v := (-9000000000000000003)) O wc_RL_21 dL_append_13 ?_
        exact z_lret O hret hlk dL_append_16 (Nat.le_of_ble_eq_true rfl) (Nat.le_of_ble_eq_true rfl) ⟨_, rfl, w, k1, k2, hc⟩
      · exact (hx.2.2 ⟨e0, e1⟩).elim
  · obtain ⟨rfl, w, k1, k2, h⟩ := hq
    refine z_i2l O dL_append_5 ?_
    exact z_lret O hret hlk dL_append_6 (Nat.le_of_ble_eq_true rfl) (Nat.le_of_ble_eq_true rfl) ⟨_, rfl, w, k1, k2, h⟩
theorem dL_load_0 : decode cL_load 0 = .ok (.aload_n 0, 1) := by decide +kernel
theorem dL_load_1 : decode cL_load 1 = .ok (.invokevirtual 23, 3) := by decide +kernel
theorem dL_load_4 : decode cL_load 4 = .ok (.i2l, 1) := by decide +kernel
theorem dL_load_5 : decode cL_load 5 = .ok (.lreturn, 1) := by decide +kernel
theorem dL_load_6 : decode cL_load 6 = .ok (.astore_n 1, 1) := by decide +kernel
theorem dL_load_7 : decode cL_load 7 = .ok (.ldc2_w 21, 3) := by decide +kernel
theorem dL_load_10 : decode cL_load 10 = .ok (.lreturn, 1) := by decide +kernel
abbrev hL_load : List (Nat × Nat × Nat × Nat) := [(0, 5, 6, 19)]
theorem wh_L_load : zYh yL_load cL_load 2 (some .long) hL_load 1 := ⟨(zgt_at 260 (by decide +kernel) (by decide +kernel)), (zgt_at 4 (by decide +kernel) (by decide +kernel)), by decide +kernel, by decide +kernel, by decide +kernel⟩
def P_LAW_load  (v0 : TT) (Q : Int64 → TT → Prop) : Prop := P_T_load  v0 (fun E v => (E = "java/lang/IllegalStateException" → Q (-9000000000000000003) v) ∧ ((¬ E = "java/lang/IllegalStateException") → False)) (fun r v => Q (Int32.toInt64 r) v)
set_option maxRecDepth 100000 in
theorem s_LAW_load {l : Launch} {D : zD} {B : Nat} {sa : Nat → Nat} (hfl : l.stackTraces = false) {z : Nat} {G : zG} {b0 : Nat}  {v0 : TT} {Q : Int64 → TT → Prop} (h0 : TA b0 v0 G) (h : P_LAW_load  v0 Q) : zSh l D B sa yL_load cL_load 2 (some .long) hL_load 8 209 1 6 [.ref b0] z G (zRl fun r z' G' => ∃ w, TA b0 w G' ∧ Fr b0 475 G G' ∧ Q r w) := by
  unfold P_LAW_load at h
  refine z_ofH (by decide +kernel) hfl [some (.ref b0), none] rfl (Nat.le_of_ble_eq_true rfl) (fun p e s m args below meth c O hT hret hlk => ?_)
  have O : zO p l s m args c D B sa 2 cL_load RL := O
  refine z_aload_n O dL_load_0 rfl rfl ?_
  refine z_callXi (As := []) (st := []) O (s_T_load hfl h0 h) wy_X5_load wl_RL_23 dL_load_1 rfl rfl (T_obj h0) ⟨by decide, rfl⟩ ⟨(Nat.le_of_ble_eq_true rfl), (Nat.le_of_ble_eq_true rfl)⟩ (Nat.le_of_ble_eq_true rfl) ⟨(Nat.le_of_ble_eq_true rfl), (Nat.le_of_ble_eq_true rfl)⟩ (fun E z1 G1 hx => ?_) (fun r z1 G1 hq => ?_)
  · obtain ⟨w, k1, k2, hx⟩ := hx
    by_cases e0 : E = "java/lang/IllegalStateException"
    · have hc := hx.1 e0
      subst e0
      refine z_catch [] ⟨0, 5, 6, 19⟩ [] O (hT.trans rfl) (fun z9 hz => absurd hz List.not_mem_nil) (by decide) (by decide) wk_RL_19 (by decide) (fun q9 => ?_)
      refine z_astore_n (L' := [some (.ref b0), some (.ref q9)]) O dL_load_6 rfl (by decide) rfl ?_
      refine z_ldc2 (v := (-9000000000000000003)) O wc_RL_21 dL_load_7 ?_
      exact z_lret O hret hlk dL_load_10 (Nat.le_of_ble_eq_true rfl) (Nat.le_of_ble_eq_true rfl) ⟨_, rfl, w, k1, k2, hc⟩
    · exact (hx.2 e0).elim
  · obtain ⟨rfl, w, k1, k2, h⟩ := hq
    refine z_i2l O dL_load_4 ?_
    exact z_lret O hret hlk dL_load_5 (Nat.le_of_ble_eq_true rfl) (Nat.le_of_ble_eq_true rfl) ⟨_, rfl, w, k1, k2, h⟩
theorem dL_about_0 : decode cL_about 0 = .ok (.aload_n 0, 1) := by decide +kernel
theorem dL_about_1 : decode cL_about 1 = .ok (.iload_n 1, 1) := by decide +kernel
theorem dL_about_2 : decode cL_about 2 = .ok (.invokevirtual 27, 3) := by decide +kernel
theorem dL_about_5 : decode cL_about 5 = .ok (.i2l, 1) := by decide +kernel
theorem dL_about_6 : decode cL_about 6 = .ok (.lreturn, 1) := by decide +kernel
theorem dL_about_7 : decode cL_about 7 = .ok (.astore_n 2, 1) := by decide +kernel
theorem dL_about_8 : decode cL_about 8 = .ok (.ldc2_w 17, 3) := by decide +kernel
theorem dL_about_11 : decode cL_about 11 = .ok (.lreturn, 1) := by decide +kernel
abbrev hL_about : List (Nat × Nat × Nat × Nat) := [(0, 6, 7, 15)]
theorem wh_L_about : zYh yL_about cL_about 3 (some .long) hL_about 2 := ⟨(zgt_at 587 (by decide +kernel) (by decide +kernel)), (zgt_at 4 (by decide +kernel) (by decide +kernel)), by decide +kernel, by decide +kernel, by decide +kernel⟩
def P_LAW_about (x1 : Int32) (v0 : TT) (Q : Int64 → Prop) : Prop := P_T_about x1 v0 (fun E => (E = "java/lang/IllegalArgumentException" → Q (-9000000000000000002)) ∧ ((¬ E = "java/lang/IllegalArgumentException") → False)) (fun r => Q (Int32.toInt64 r))
set_option maxRecDepth 100000 in
theorem s_LAW_about {l : Launch} {D : zD} {B : Nat} {sa : Nat → Nat} (hfl : l.stackTraces = false) {z : Nat} {G : zG} {b0 : Nat} {x1 : Int32} {v0 : TT} {Q : Int64 → Prop} (h0 : TA b0 v0 G) (h : P_LAW_about x1 v0 Q) : zSh l D B sa yL_about cL_about 3 (some .long) hL_about 7 129 1 6 [.ref b0, .int x1] z G (zRl fun r z' G' => G = G' ∧ Q r) := by
  unfold P_LAW_about at h
  refine z_ofH (by decide +kernel) hfl [some (.ref b0), some (.int x1), none] rfl (Nat.le_of_ble_eq_true rfl) (fun p e s m args below meth c O hT hret hlk => ?_)
  have O : zO p l s m args c D B sa 3 cL_about RL := O
  refine z_aload_n O dL_about_0 rfl rfl ?_
  refine z_iload_n O dL_about_1 rfl rfl ?_
  refine z_callXi (As := [.int x1]) (st := []) O (s_T_about hfl h0 h) wy_X5_about wl_RL_27 dL_about_2 rfl rfl (T_obj h0) ⟨by decide, rfl⟩ ⟨(Nat.le_of_ble_eq_true rfl), (Nat.le_of_ble_eq_true rfl)⟩ (Nat.le_of_ble_eq_true rfl) ⟨(Nat.le_of_ble_eq_true rfl), (Nat.le_of_ble_eq_true rfl)⟩ (fun E z1 G1 hx => ?_) (fun r z1 G1 hq => ?_)
  · obtain ⟨rfl, hx⟩ := hx
    by_cases e0 : E = "java/lang/IllegalArgumentException"
    · have hc := hx.1 e0
      subst e0
      refine z_catch [] ⟨0, 6, 7, 15⟩ [] O (hT.trans rfl) (fun z9 hz => absurd hz List.not_mem_nil) (by decide) (by decide) wk_RL_15 (by decide) (fun q9 => ?_)
      refine z_astore_n (L' := [some (.ref b0), some (.int x1), some (.ref q9)]) O dL_about_7 rfl (by decide) rfl ?_
      refine z_ldc2 (v := (-9000000000000000002)) O wc_RL_17 dL_about_8 ?_
      exact z_lret O hret hlk dL_about_11 (Nat.le_of_ble_eq_true rfl) (Nat.le_of_ble_eq_true rfl) ⟨_, rfl, rfl, hc⟩
    · exact (hx.2 e0).elim
  · obtain ⟨rfl, rfl, h⟩ := hq
    refine z_i2l O dL_about_5 ?_
    exact z_lret O hret hlk dL_about_6 (Nat.le_of_ble_eq_true rfl) (Nat.le_of_ble_eq_true rfl) ⟨_, rfl, rfl, h⟩
theorem dL_rowOf_0 : decode cL_rowOf 0 = .ok (.aload_n 0, 1) := by decide +kernel
theorem dL_rowOf_1 : decode cL_rowOf 1 = .ok (.iload_n 1, 1) := by decide +kernel
theorem dL_rowOf_2 : decode cL_rowOf 2 = .ok (.iload_n 2, 1) := by decide +kernel
theorem dL_rowOf_3 : decode cL_rowOf 3 = .ok (.invokevirtual 30, 3) := by decide +kernel
theorem dL_rowOf_6 : decode cL_rowOf 6 = .ok (.i2l, 1) := by decide +kernel
theorem dL_rowOf_7 : decode cL_rowOf 7 = .ok (.lreturn, 1) := by decide +kernel
theorem dL_rowOf_8 : decode cL_rowOf 8 = .ok (.astore_n 3, 1) := by decide +kernel
theorem dL_rowOf_9 : decode cL_rowOf 9 = .ok (.ldc2_w 36, 3) := by decide +kernel
theorem dL_rowOf_12 : decode cL_rowOf 12 = .ok (.lreturn, 1) := by decide +kernel
theorem dL_rowOf_13 : decode cL_rowOf 13 = .ok (.astore_n 3, 1) := by decide +kernel
theorem dL_rowOf_14 : decode cL_rowOf 14 = .ok (.ldc2_w 17, 3) := by decide +kernel
theorem dL_rowOf_17 : decode cL_rowOf 17 = .ok (.lreturn, 1) := by decide +kernel
abbrev hL_rowOf : List (Nat × Nat × Nat × Nat) := [(0, 7, 8, 34), (0, 7, 13, 15)]
theorem wh_L_rowOf : zYh yL_rowOf cL_rowOf 4 (some .long) hL_rowOf 3 := ⟨(zgt_at 663 (by decide +kernel) (by decide +kernel)), (zgt_at 4 (by decide +kernel) (by decide +kernel)), by decide +kernel, by decide +kernel, by decide +kernel⟩
def P_LAW_rowOf (x1 : Int32) (x2 : Int32) (v0 : TT) (Q : Int64 → Prop) : Prop := P_T_rowOf x1 x2 v0 (fun E => (E = "java/lang/IndexOutOfBoundsException" → Q (-9000000000000000001)) ∧ (E = "java/lang/IllegalArgumentException" → Q (-9000000000000000002)) ∧ ((¬ E = "java/lang/IndexOutOfBoundsException" ∧ ¬ E = "java/lang/IllegalArgumentException") → False)) (fun r => Q (Int32.toInt64 r))
set_option maxRecDepth 100000 in
theorem s_LAW_rowOf {l : Launch} {D : zD} {B : Nat} {sa : Nat → Nat} (hfl : l.stackTraces = false) {z : Nat} {G : zG} {b0 : Nat} {x1 : Int32} {x2 : Int32} {v0 : TT} {Q : Int64 → Prop} (h0 : TA b0 v0 G) (h : P_LAW_rowOf x1 x2 v0 Q) : zSh l D B sa yL_rowOf cL_rowOf 4 (some .long) hL_rowOf 7 112 1 6 [.ref b0, .int x1, .int x2] z G (zRl fun r z' G' => G = G' ∧ Q r) := by
  unfold P_LAW_rowOf at h
  refine z_ofH (by decide +kernel) hfl [some (.ref b0), some (.int x1), some (.int x2), none] rfl (Nat.le_of_ble_eq_true rfl) (fun p e s m args below meth c O hT hret hlk => ?_)
  have O : zO p l s m args c D B sa 4 cL_rowOf RL := O
  refine z_aload_n O dL_rowOf_0 rfl rfl ?_
  refine z_iload_n O dL_rowOf_1 rfl rfl ?_
  refine z_iload_n O dL_rowOf_2 rfl rfl ?_
  refine z_callXi (As := [.int x1, .int x2]) (st := []) O (s_T_rowOf hfl h0 h) wy_X5_rowOf wl_RL_30 dL_rowOf_3 rfl rfl (T_obj h0) ⟨by decide, rfl⟩ ⟨(Nat.le_of_ble_eq_true rfl), (Nat.le_of_ble_eq_true rfl)⟩ (Nat.le_of_ble_eq_true rfl) ⟨(Nat.le_of_ble_eq_true rfl), (Nat.le_of_ble_eq_true rfl)⟩ (fun E z1 G1 hx => ?_) (fun r z1 G1 hq => ?_)
  · obtain ⟨rfl, hx⟩ := hx
    by_cases e0 : E = "java/lang/IndexOutOfBoundsException"
    · have hc := hx.1 e0
      subst e0
      refine z_catch [] ⟨0, 7, 8, 34⟩ [⟨0, 7, 13, 15⟩] O (hT.trans rfl) (fun z9 hz => absurd hz List.not_mem_nil) (by decide) (by decide) wk_RL_34 (by decide) (fun q9 => ?_)
      refine z_astore_n (L' := [some (.ref b0), some (.int x1), some (.int x2), some (.ref q9)]) O dL_rowOf_8 rfl (by decide) rfl ?_
      refine z_ldc2 (v := (-9000000000000000001)) O wc_RL_36 dL_rowOf_9 ?_
      exact z_lret O hret hlk dL_rowOf_12 (Nat.le_of_ble_eq_true rfl) (Nat.le_of_ble_eq_true rfl) ⟨_, rfl, rfl, hc⟩
    · skip
      by_cases e1 : E = "java/lang/IllegalArgumentException"
      · have hc := hx.2.1 e1
        subst e1
        refine z_catch [⟨0, 7, 8, 34⟩] ⟨0, 7, 13, 15⟩ [] O (hT.trans rfl) (fun z9 hz => by cases List.mem_singleton.mp hz; exact Or.inr ⟨by decide, _, wk_RL_34, by decide⟩) (by decide) (by decide) wk_RL_15 (by decide) (fun q9 => ?_)
        refine z_astore_n (L' := [some (.ref b0), some (.int x1), some (.int x2), some (.ref q9)]) O dL_rowOf_13 rfl (by decide) rfl ?_
        refine z_ldc2 (v := (-9000000000000000002)) O wc_RL_17 dL_rowOf_14 ?_
        exact z_lret O hret hlk dL_rowOf_17 (Nat.le_of_ble_eq_true rfl) (Nat.le_of_ble_eq_true rfl) ⟨_, rfl, rfl, hc⟩
      · exact (hx.2.2 ⟨e0, e1⟩).elim
  · obtain ⟨rfl, rfl, h⟩ := hq
    refine z_i2l O dL_rowOf_6 ?_
    exact z_lret O hret hlk dL_rowOf_7 (Nat.le_of_ble_eq_true rfl) (Nat.le_of_ble_eq_true rfl) ⟨_, rfl, rfl, h⟩
theorem dL_segmentOf_0 : decode cL_segmentOf 0 = .ok (.aload_n 0, 1) := by decide +kernel
theorem dL_segmentOf_1 : decode cL_segmentOf 1 = .ok (.iload_n 1, 1) := by decide +kernel
theorem dL_segmentOf_2 : decode cL_segmentOf 2 = .ok (.iload_n 2, 1) := by decide +kernel
theorem dL_segmentOf_3 : decode cL_segmentOf 3 = .ok (.invokevirtual 38, 3) := by decide +kernel
theorem dL_segmentOf_6 : decode cL_segmentOf 6 = .ok (.i2l, 1) := by decide +kernel
theorem dL_segmentOf_7 : decode cL_segmentOf 7 = .ok (.lreturn, 1) := by decide +kernel
theorem dL_segmentOf_8 : decode cL_segmentOf 8 = .ok (.astore_n 3, 1) := by decide +kernel
theorem dL_segmentOf_9 : decode cL_segmentOf 9 = .ok (.ldc2_w 36, 3) := by decide +kernel
theorem dL_segmentOf_12 : decode cL_segmentOf 12 = .ok (.lreturn, 1) := by decide +kernel
theorem dL_segmentOf_13 : decode cL_segmentOf 13 = .ok (.astore_n 3, 1) := by decide +kernel
theorem dL_segmentOf_14 : decode cL_segmentOf 14 = .ok (.ldc2_w 17, 3) := by decide +kernel
theorem dL_segmentOf_17 : decode cL_segmentOf 17 = .ok (.lreturn, 1) := by decide +kernel
abbrev hL_segmentOf : List (Nat × Nat × Nat × Nat) := [(0, 7, 8, 34), (0, 7, 13, 15)]
theorem wh_L_segmentOf : zYh yL_segmentOf cL_segmentOf 4 (some .long) hL_segmentOf 3 := ⟨(zgt_at 685 (by decide +kernel) (by decide +kernel)), (zgt_at 4 (by decide +kernel) (by decide +kernel)), by decide +kernel, by decide +kernel, by decide +kernel⟩
def P_LAW_segmentOf (x1 : Int32) (x2 : Int32) (v0 : TT) (Q : Int64 → Prop) : Prop := P_T_segmentOf x1 x2 v0 (fun E => (E = "java/lang/IndexOutOfBoundsException" → Q (-9000000000000000001)) ∧ (E = "java/lang/IllegalArgumentException" → Q (-9000000000000000002)) ∧ ((¬ E = "java/lang/IndexOutOfBoundsException" ∧ ¬ E = "java/lang/IllegalArgumentException") → False)) (fun r => Q (Int32.toInt64 r))
set_option maxRecDepth 100000 in
theorem s_LAW_segmentOf {l : Launch} {D : zD} {B : Nat} {sa : Nat → Nat} (hfl : l.stackTraces = false) {z : Nat} {G : zG} {b0 : Nat} {x1 : Int32} {x2 : Int32} {v0 : TT} {Q : Int64 → Prop} (h0 : TA b0 v0 G) (h : P_LAW_segmentOf x1 x2 v0 Q) : zSh l D B sa yL_segmentOf cL_segmentOf 4 (some .long) hL_segmentOf 7 112 1 6 [.ref b0, .int x1, .int x2] z G (zRl fun r z' G' => G = G' ∧ Q r) := by
  unfold P_LAW_segmentOf at h
  refine z_ofH (by decide +kernel) hfl [some (.ref b0), some (.int x1), some (.int x2), none] rfl (Nat.le_of_ble_eq_true rfl) (fun p e s m args below meth c O hT hret hlk => ?_)
  have O : zO p l s m args c D B sa 4 cL_segmentOf RL := O
  refine z_aload_n O dL_segmentOf_0 rfl rfl ?_
  refine z_iload_n O dL_segmentOf_1 rfl rfl ?_
  refine z_iload_n O dL_segmentOf_2 rfl rfl ?_
  refine z_callXi (As := [.int x1, .int x2]) (st := []) O (s_T_segmentOf hfl h0 h) wy_X5_segmentOf wl_RL_38 dL_segmentOf_3 rfl rfl (T_obj h0) ⟨by decide, rfl⟩ ⟨(Nat.le_of_ble_eq_true rfl), (Nat.le_of_ble_eq_true rfl)⟩ (Nat.le_of_ble_eq_true rfl) ⟨(Nat.le_of_ble_eq_true rfl), (Nat.le_of_ble_eq_true rfl)⟩ (fun E z1 G1 hx => ?_) (fun r z1 G1 hq => ?_)
  · obtain ⟨rfl, hx⟩ := hx
    by_cases e0 : E = "java/lang/IndexOutOfBoundsException"
    · have hc := hx.1 e0
      subst e0
      refine z_catch [] ⟨0, 7, 8, 34⟩ [⟨0, 7, 13, 15⟩] O (hT.trans rfl) (fun z9 hz => absurd hz List.not_mem_nil) (by decide) (by decide) wk_RL_34 (by decide) (fun q9 => ?_)
      refine z_astore_n (L' := [some (.ref b0), some (.int x1), some (.int x2), some (.ref q9)]) O dL_segmentOf_8 rfl (by decide) rfl ?_
      refine z_ldc2 (v := (-9000000000000000001)) O wc_RL_36 dL_segmentOf_9 ?_
      exact z_lret O hret hlk dL_segmentOf_12 (Nat.le_of_ble_eq_true rfl) (Nat.le_of_ble_eq_true rfl) ⟨_, rfl, rfl, hc⟩
    · skip
      by_cases e1 : E = "java/lang/IllegalArgumentException"
      · have hc := hx.2.1 e1
        subst e1
        refine z_catch [⟨0, 7, 8, 34⟩] ⟨0, 7, 13, 15⟩ [] O (hT.trans rfl) (fun z9 hz => by cases List.mem_singleton.mp hz; exact Or.inr ⟨by decide, _, wk_RL_34, by decide⟩) (by decide) (by decide) wk_RL_15 (by decide) (fun q9 => ?_)
        refine z_astore_n (L' := [some (.ref b0), some (.int x1), some (.int x2), some (.ref q9)]) O dL_segmentOf_13 rfl (by decide) rfl ?_
        refine z_ldc2 (v := (-9000000000000000002)) O wc_RL_17 dL_segmentOf_14 ?_
        exact z_lret O hret hlk dL_segmentOf_17 (Nat.le_of_ble_eq_true rfl) (Nat.le_of_ble_eq_true rfl) ⟨_, rfl, rfl, hc⟩
      · exact (hx.2.2 ⟨e0, e1⟩).elim
  · obtain ⟨rfl, rfl, h⟩ := hq
    refine z_i2l O dL_segmentOf_6 ?_
    exact z_lret O hret hlk dL_segmentOf_7 (Nat.le_of_ble_eq_true rfl) (Nat.le_of_ble_eq_true rfl) ⟨_, rfl, rfl, h⟩
theorem dL_readerOf_0 : decode cL_readerOf 0 = .ok (.aload_n 0, 1) := by decide +kernel
theorem dL_readerOf_1 : decode cL_readerOf 1 = .ok (.iload_n 1, 1) := by decide +kernel
theorem dL_readerOf_2 : decode cL_readerOf 2 = .ok (.iload_n 2, 1) := by decide +kernel
theorem dL_readerOf_3 : decode cL_readerOf 3 = .ok (.invokevirtual 41, 3) := by decide +kernel
theorem dL_readerOf_6 : decode cL_readerOf 6 = .ok (.i2l, 1) := by decide +kernel
theorem dL_readerOf_7 : decode cL_readerOf 7 = .ok (.lreturn, 1) := by decide +kernel
theorem dL_readerOf_8 : decode cL_readerOf 8 = .ok (.astore_n 3, 1) := by decide +kernel
theorem dL_readerOf_9 : decode cL_readerOf 9 = .ok (.ldc2_w 36, 3) := by decide +kernel
theorem dL_readerOf_12 : decode cL_readerOf 12 = .ok (.lreturn, 1) := by decide +kernel
theorem dL_readerOf_13 : decode cL_readerOf 13 = .ok (.astore_n 3, 1) := by decide +kernel
theorem dL_readerOf_14 : decode cL_readerOf 14 = .ok (.ldc2_w 17, 3) := by decide +kernel
theorem dL_readerOf_17 : decode cL_readerOf 17 = .ok (.lreturn, 1) := by decide +kernel
abbrev hL_readerOf : List (Nat × Nat × Nat × Nat) := [(0, 7, 8, 34), (0, 7, 13, 15)]
theorem wh_L_readerOf : zYh yL_readerOf cL_readerOf 4 (some .long) hL_readerOf 3 := ⟨(zgt_at 638 (by decide +kernel) (by decide +kernel)), (zgt_at 4 (by decide +kernel) (by decide +kernel)), by decide +kernel, by decide +kernel, by decide +kernel⟩
def P_LAW_readerOf (x1 : Int32) (x2 : Int32) (v0 : TT) (Q : Int64 → Prop) : Prop := P_T_readerOf x1 x2 v0 (fun E => (E = "java/lang/IndexOutOfBoundsException" → Q (-9000000000000000001)) ∧ (E = "java/lang/IllegalArgumentException" → Q (-9000000000000000002)) ∧ ((¬ E = "java/lang/IndexOutOfBoundsException" ∧ ¬ E = "java/lang/IllegalArgumentException") → False)) (fun r => Q (Int32.toInt64 r))
set_option maxRecDepth 100000 in
theorem s_LAW_readerOf {l : Launch} {D : zD} {B : Nat} {sa : Nat → Nat} (hfl : l.stackTraces = false) {z : Nat} {G : zG} {b0 : Nat} {x1 : Int32} {x2 : Int32} {v0 : TT} {Q : Int64 → Prop} (h0 : TA b0 v0 G) (h : P_LAW_readerOf x1 x2 v0 Q) : zSh l D B sa yL_readerOf cL_readerOf 4 (some .long) hL_readerOf 7 113 1 6 [.ref b0, .int x1, .int x2] z G (zRl fun r z' G' => G = G' ∧ Q r) := by
  unfold P_LAW_readerOf at h
  refine z_ofH (by decide +kernel) hfl [some (.ref b0), some (.int x1), some (.int x2), none] rfl (Nat.le_of_ble_eq_true rfl) (fun p e s m args below meth c O hT hret hlk => ?_)
  have O : zO p l s m args c D B sa 4 cL_readerOf RL := O
  refine z_aload_n O dL_readerOf_0 rfl rfl ?_
  refine z_iload_n O dL_readerOf_1 rfl rfl ?_
  refine z_iload_n O dL_readerOf_2 rfl rfl ?_
  refine z_callXi (As := [.int x1, .int x2]) (st := []) O (s_T_readerOf hfl h0 h) wy_X5_readerOf wl_RL_41 dL_readerOf_3 rfl rfl (T_obj h0) ⟨by decide, rfl⟩ ⟨(Nat.le_of_ble_eq_true rfl), (Nat.le_of_ble_eq_true rfl)⟩ (Nat.le_of_ble_eq_true rfl) ⟨(Nat.le_of_ble_eq_true rfl), (Nat.le_of_ble_eq_true rfl)⟩ (fun E z1 G1 hx => ?_) (fun r z1 G1 hq => ?_)
  · obtain ⟨rfl, hx⟩ := hx
    by_cases e0 : E = "java/lang/IndexOutOfBoundsException"
    · have hc := hx.1 e0
      subst e0
      refine z_catch [] ⟨0, 7, 8, 34⟩ [⟨0, 7, 13, 15⟩] O (hT.trans rfl) (fun z9 hz => absurd hz List.not_mem_nil) (by decide) (by decide) wk_RL_34 (by decide) (fun q9 => ?_)
      refine z_astore_n (L' := [some (.ref b0), some (.int x1), some (.int x2), some (.ref q9)]) O dL_readerOf_8 rfl (by decide) rfl ?_
      refine z_ldc2 (v := (-9000000000000000001)) O wc_RL_36 dL_readerOf_9 ?_
      exact z_lret O hret hlk dL_readerOf_12 (Nat.le_of_ble_eq_true rfl) (Nat.le_of_ble_eq_true rfl) ⟨_, rfl, rfl, hc⟩
    · skip
      by_cases e1 : E = "java/lang/IllegalArgumentException"
      · have hc := hx.2.1 e1
        subst e1
        refine z_catch [⟨0, 7, 8, 34⟩] ⟨0, 7, 13, 15⟩ [] O (hT.trans rfl) (fun z9 hz => by cases List.mem_singleton.mp hz; exact Or.inr ⟨by decide, _, wk_RL_34, by decide⟩) (by decide) (by decide) wk_RL_15 (by decide) (fun q9 => ?_)
        refine z_astore_n (L' := [some (.ref b0), some (.int x1), some (.int x2), some (.ref q9)]) O dL_readerOf_13 rfl (by decide) rfl ?_
        refine z_ldc2 (v := (-9000000000000000002)) O wc_RL_17 dL_readerOf_14 ?_
        exact z_lret O hret hlk dL_readerOf_17 (Nat.le_of_ble_eq_true rfl) (Nat.le_of_ble_eq_true rfl) ⟨_, rfl, rfl, hc⟩
      · exact (hx.2.2 ⟨e0, e1⟩).elim
  · obtain ⟨rfl, rfl, h⟩ := hq
    refine z_i2l O dL_readerOf_6 ?_
    exact z_lret O hret hlk dL_readerOf_7 (Nat.le_of_ble_eq_true rfl) (Nat.le_of_ble_eq_true rfl) ⟨_, rfl, rfl, h⟩
theorem dL_table_0 : decode cL_table 0 = .ok (.aload_n 0, 1) := by decide +kernel
theorem dL_table_1 : decode cL_table 1 = .ok (.iload_n 1, 1) := by decide +kernel
theorem dL_table_2 : decode cL_table 2 = .ok (.iload_n 2, 1) := by decide +kernel
theorem dL_table_3 : decode cL_table 3 = .ok (.invokevirtual 44, 3) := by decide +kernel
theorem dL_table_6 : decode cL_table 6 = .ok (.i2l, 1) := by decide +kernel
theorem dL_table_7 : decode cL_table 7 = .ok (.lreturn, 1) := by decide +kernel
theorem dL_table_8 : decode cL_table 8 = .ok (.astore_n 3, 1) := by decide +kernel
theorem dL_table_9 : decode cL_table 9 = .ok (.ldc2_w 36, 3) := by decide +kernel
theorem dL_table_12 : decode cL_table 12 = .ok (.lreturn, 1) := by decide +kernel
theorem dL_table_13 : decode cL_table 13 = .ok (.astore_n 3, 1) := by decide +kernel
theorem dL_table_14 : decode cL_table 14 = .ok (.ldc2_w 17, 3) := by decide +kernel
theorem dL_table_17 : decode cL_table 17 = .ok (.lreturn, 1) := by decide +kernel
abbrev hL_table : List (Nat × Nat × Nat × Nat) := [(0, 7, 8, 34), (0, 7, 13, 15)]
theorem wh_L_table : zYh yL_table cL_table 4 (some .long) hL_table 3 := ⟨(zgt_at 656 (by decide +kernel) (by decide +kernel)), (zgt_at 4 (by decide +kernel) (by decide +kernel)), by decide +kernel, by decide +kernel, by decide +kernel⟩
def P_LAW_table (x1 : Int32) (x2 : Int32) (v0 : TT) (Q : Int64 → Prop) : Prop := P_T_table x1 x2 v0 (fun E => (E = "java/lang/IndexOutOfBoundsException" → Q (-9000000000000000001)) ∧ (E = "java/lang/IllegalArgumentException" → Q (-9000000000000000002)) ∧ ((¬ E = "java/lang/IndexOutOfBoundsException" ∧ ¬ E = "java/lang/IllegalArgumentException") → False)) (fun r => Q (Int32.toInt64 r))
set_option maxRecDepth 100000 in
theorem s_LAW_table {l : Launch} {D : zD} {B : Nat} {sa : Nat → Nat} (hfl : l.stackTraces = false) {z : Nat} {G : zG} {b0 : Nat} {x1 : Int32} {x2 : Int32} {v0 : TT} {Q : Int64 → Prop} (h0 : TA b0 v0 G) (h : P_LAW_table x1 x2 v0 Q) : zSh l D B sa yL_table cL_table 4 (some .long) hL_table 7 113 1 6 [.ref b0, .int x1, .int x2] z G (zRl fun r z' G' => G = G' ∧ Q r) := by
  unfold P_LAW_table at h
  refine z_ofH (by decide +kernel) hfl [some (.ref b0), some (.int x1), some (.int x2), none] rfl (Nat.le_of_ble_eq_true rfl) (fun p e s m args below meth c O hT hret hlk => ?_)
  have O : zO p l s m args c D B sa 4 cL_table RL := O
  refine z_aload_n O dL_table_0 rfl rfl ?_
  refine z_iload_n O dL_table_1 rfl rfl ?_
  refine z_iload_n O dL_table_2 rfl rfl ?_
  refine z_callXi (As := [.int x1, .int x2]) (st := []) O (s_T_table hfl h0 h) wy_X5_table wl_RL_44 dL_table_3 rfl rfl (T_obj h0) ⟨by decide, rfl⟩ ⟨(Nat.le_of_ble_eq_true rfl), (Nat.le_of_ble_eq_true rfl)⟩ (Nat.le_of_ble_eq_true rfl) ⟨(Nat.le_of_ble_eq_true rfl), (Nat.le_of_ble_eq_true rfl)⟩ (fun E z1 G1 hx => ?_) (fun r z1 G1 hq => ?_)
  · obtain ⟨rfl, hx⟩ := hx
    by_cases e0 : E = "java/lang/IndexOutOfBoundsException"
    · have hc := hx.1 e0
      subst e0
      refine z_catch [] ⟨0, 7, 8, 34⟩ [⟨0, 7, 13, 15⟩] O (hT.trans rfl) (fun z9 hz => absurd hz List.not_mem_nil) (by decide) (by decide) wk_RL_34 (by decide) (fun q9 => ?_)
      refine z_astore_n (L' := [some (.ref b0), some (.int x1), some (.int x2), some (.ref q9)]) O dL_table_8 rfl (by decide) rfl ?_
      refine z_ldc2 (v := (-9000000000000000001)) O wc_RL_36 dL_table_9 ?_
      exact z_lret O hret hlk dL_table_12 (Nat.le_of_ble_eq_true rfl) (Nat.le_of_ble_eq_true rfl) ⟨_, rfl, rfl, hc⟩
    · skip
      by_cases e1 : E = "java/lang/IllegalArgumentException"
      · have hc := hx.2.1 e1
        subst e1
        refine z_catch [⟨0, 7, 8, 34⟩] ⟨0, 7, 13, 15⟩ [] O (hT.trans rfl) (fun z9 hz => by cases List.mem_singleton.mp hz; exact Or.inr ⟨by decide, _, wk_RL_34, by decide⟩) (by decide) (by decide) wk_RL_15 (by decide) (fun q9 => ?_)
        refine z_astore_n (L' := [some (.ref b0), some (.int x1), some (.int x2), some (.ref q9)]) O dL_table_13 rfl (by decide) rfl ?_
        refine z_ldc2 (v := (-9000000000000000002)) O wc_RL_17 dL_table_14 ?_
        exact z_lret O hret hlk dL_table_17 (Nat.le_of_ble_eq_true rfl) (Nat.le_of_ble_eq_true rfl) ⟨_, rfl, rfl, hc⟩
      · exact (hx.2.2 ⟨e0, e1⟩).elim
  · obtain ⟨rfl, rfl, h⟩ := hq
    refine z_i2l O dL_table_6 ?_
    exact z_lret O hret hlk dL_table_7 (Nat.le_of_ble_eq_true rfl) (Nat.le_of_ble_eq_true rfl) ⟨_, rfl, rfl, h⟩
theorem dL_base_0 : decode cL_base 0 = .ok (.aload_n 0, 1) := by decide +kernel
theorem dL_base_1 : decode cL_base 1 = .ok (.iload_n 1, 1) := by decide +kernel
theorem dL_base_2 : decode cL_base 2 = .ok (.invokevirtual 47, 3) := by decide +kernel
theorem dL_base_5 : decode cL_base 5 = .ok (.i2l, 1) := by decide +kernel
theorem dL_base_6 : decode cL_base 6 = .ok (.lreturn, 1) := by decide +kernel
theorem dL_base_7 : decode cL_base 7 = .ok (.astore_n 2, 1) := by decide +kernel
theorem dL_base_8 : decode cL_base 8 = .ok (.ldc2_w 17, 3) := by decide +kernel
theorem dL_base_11 : decode cL_base 11 = .ok (.lreturn, 1) := by decide +kernel
abbrev hL_base : List (Nat × Nat × Nat × Nat) := [(0, 6, 7, 15)]
theorem wh_L_base : zYh yL_base cL_base 3 (some .long) hL_base 2 := ⟨(zgt_at 620 (by decide +kernel) (by decide +kernel)), (zgt_at 4 (by decide +kernel) (by decide +kernel)), by decide +kernel, by decide +kernel, by decide +kernel⟩
def P_LAW_base (x1 : Int32) (v0 : TT) (Q : Int64 → Prop) : Prop := P_T_base x1 v0 (fun E => (E = "java/lang/IllegalArgumentException" → Q (-9000000000000000002)) ∧ ((¬ E = "java/lang/IllegalArgumentException") → False)) (fun r => Q (Int32.toInt64 r))
set_option maxRecDepth 100000 in
theorem s_LAW_base {l : Launch} {D : zD} {B : Nat} {sa : Nat → Nat} (hfl : l.stackTraces = false) {z : Nat} {G : zG} {b0 : Nat} {x1 : Int32} {v0 : TT} {Q : Int64 → Prop} (h0 : TA b0 v0 G) (h : P_LAW_base x1 v0 Q) : zSh l D B sa yL_base cL_base 3 (some .long) hL_base 7 111 1 6 [.ref b0, .int x1] z G (zRl fun r z' G' => G = G' ∧ Q r) := by
  unfold P_LAW_base at h
  refine z_ofH (by decide +kernel) hfl [some (.ref b0), some (.int x1), none] rfl (Nat.le_of_ble_eq_true rfl) (fun p e s m args below meth c O hT hret hlk => ?_)
  have O : zO p l s m args c D B sa 3 cL_base RL := O
  refine z_aload_n O dL_base_0 rfl rfl ?_
  refine z_iload_n O dL_base_1 rfl rfl ?_
  refine z_callXi (As := [.int x1]) (st := []) O (s_T_base hfl h0 h) wy_X5_base wl_RL_47 dL_base_2 rfl rfl (T_obj h0) ⟨by decide, rfl⟩ ⟨(Nat.le_of_ble_eq_true rfl), (Nat.le_of_ble_eq_true rfl)⟩ (Nat.le_of_ble_eq_true rfl) ⟨(Nat.le_of_ble_eq_true rfl), (Nat.le_of_ble_eq_true rfl)⟩ (fun E z1 G1 hx => ?_) (fun r z1 G1 hq => ?_)
  · obtain ⟨rfl, hx⟩ := hx
    by_cases e0 : E = "java/lang/IllegalArgumentException"
    · have hc := hx.1 e0
      subst e0
      refine z_catch [] ⟨0, 6, 7, 15⟩ [] O (hT.trans rfl) (fun z9 hz => absurd hz List.not_mem_nil) (by decide) (by decide) wk_RL_15 (by decide) (fun q9 => ?_)
      refine z_astore_n (L' := [some (.ref b0), some (.int x1), some (.ref q9)]) O dL_base_7 rfl (by decide) rfl ?_
      refine z_ldc2 (v := (-9000000000000000002)) O wc_RL_17 dL_base_8 ?_
      exact z_lret O hret hlk dL_base_11 (Nat.le_of_ble_eq_true rfl) (Nat.le_of_ble_eq_true rfl) ⟨_, rfl, rfl, hc⟩
    · exact (hx.2 e0).elim
  · obtain ⟨rfl, rfl, h⟩ := hq
    refine z_i2l O dL_base_5 ?_
    exact z_lret O hret hlk dL_base_6 (Nat.le_of_ble_eq_true rfl) (Nat.le_of_ble_eq_true rfl) ⟨_, rfl, rfl, h⟩
theorem dL_setting_0 : decode cL_setting 0 = .ok (.aload_n 0, 1) := by decide +kernel
theorem dL_setting_1 : decode cL_setting 1 = .ok (.iload_n 1, 1) := by decide +kernel
theorem dL_setting_2 : decode cL_setting 2 = .ok (.invokevirtual 50, 3) := by decide +kernel
theorem dL_setting_5 : decode cL_setting 5 = .ok (.i2l, 1) := by decide +kernel
theorem dL_setting_6 : decode cL_setting 6 = .ok (.lreturn, 1) := by decide +kernel
theorem dL_setting_7 : decode cL_setting 7 = .ok (.astore_n 2, 1) := by decide +kernel
theorem dL_setting_8 : decode cL_setting 8 = .ok (.ldc2_w 17, 3) := by decide +kernel
theorem dL_setting_11 : decode cL_setting 11 = .ok (.lreturn, 1) := by decide +kernel
abbrev hL_setting : List (Nat × Nat × Nat × Nat) := [(0, 6, 7, 15)]
theorem wh_L_setting : zYh yL_setting cL_setting 3 (some .long) hL_setting 2 := ⟨(zgt_at 630 (by decide +kernel) (by decide +kernel)), (zgt_at 4 (by decide +kernel) (by decide +kernel)), by decide +kernel, by decide +kernel, by decide +kernel⟩
def P_LAW_setting (x1 : Int32) (v0 : TT) (Q : Int64 → Prop) : Prop := P_T_setting x1 v0 (fun E => (E = "java/lang/IllegalArgumentException" → Q (-9000000000000000002)) ∧ ((¬ E = "java/lang/IllegalArgumentException") → False)) (fun r => Q (Int32.toInt64 r))
set_option maxRecDepth 100000 in
theorem s_LAW_setting {l : Launch} {D : zD} {B : Nat} {sa : Nat → Nat} (hfl : l.stackTraces = false) {z : Nat} {G : zG} {b0 : Nat} {x1 : Int32} {v0 : TT} {Q : Int64 → Prop} (h0 : TA b0 v0 G) (h : P_LAW_setting x1 v0 Q) : zSh l D B sa yL_setting cL_setting 3 (some .long) hL_setting 7 111 1 6 [.ref b0, .int x1] z G (zRl fun r z' G' => G = G' ∧ Q r) := by
  unfold P_LAW_setting at h
  refine z_ofH (by decide +kernel) hfl [some (.ref b0), some (.int x1), none] rfl (Nat.le_of_ble_eq_true rfl) (fun p e s m args below meth c O hT hret hlk => ?_)
  have O : zO p l s m args c D B sa 3 cL_setting RL := O
  refine z_aload_n O dL_setting_0 rfl rfl ?_
  refine z_iload_n O dL_setting_1 rfl rfl ?_
  refine z_callXi (As := [.int x1]) (st := []) O (s_T_setting hfl h0 h) wy_X5_setting wl_RL_50 dL_setting_2 rfl rfl (T_obj h0) ⟨by decide, rfl⟩ ⟨(Nat.le_of_ble_eq_true rfl), (Nat.le_of_ble_eq_true rfl)⟩ (Nat.le_of_ble_eq_true rfl) ⟨(Nat.le_of_ble_eq_true rfl), (Nat.le_of_ble_eq_true rfl)⟩ (fun E z1 G1 hx => ?_) (fun r z1 G1 hq => ?_)
  · obtain ⟨rfl, hx⟩ := hx
    by_cases e0 : E = "java/lang/IllegalArgumentException"
    · have hc := hx.1 e0
      subst e0
      refine z_catch [] ⟨0, 6, 7, 15⟩ [] O (hT.trans rfl) (fun z9 hz => absurd hz List.not_mem_nil) (by decide) (by decide) wk_RL_15 (by decide) (fun q9 => ?_)
      refine z_astore_n (L' := [some (.ref b0), some (.int x1), some (.ref q9)]) O dL_setting_7 rfl (by decide) rfl ?_
      refine z_ldc2 (v := (-9000000000000000002)) O wc_RL_17 dL_setting_8 ?_
      exact z_lret O hret hlk dL_setting_11 (Nat.le_of_ble_eq_true rfl) (Nat.le_of_ble_eq_true rfl) ⟨_, rfl, rfl, hc⟩
    · exact (hx.2 e0).elim
  · obtain ⟨rfl, rfl, h⟩ := hq
    refine z_i2l O dL_setting_5 ?_
    exact z_lret O hret hlk dL_setting_6 (Nat.le_of_ble_eq_true rfl) (Nat.le_of_ble_eq_true rfl) ⟨_, rfl, rfl, h⟩
theorem dL_write_0 : decode cL_write 0 = .ok (.aload_n 0, 1) := by decide +kernel
theorem dL_write_1 : decode cL_write 1 = .ok (.iload_n 1, 1) := by decide +kernel
theorem dL_write_2 : decode cL_write 2 = .ok (.iload_n 2, 1) := by decide +kernel
theorem dL_write_3 : decode cL_write 3 = .ok (.iload_n 3, 1) := by decide +kernel
theorem dL_write_4 : decode cL_write 4 = .ok (.invokevirtual 53, 3) := by decide +kernel
theorem dL_write_7 : decode cL_write 7 = .ok (.i2l, 1) := by decide +kernel
theorem dL_write_8 : decode cL_write 8 = .ok (.lreturn, 1) := by decide +kernel
theorem dL_write_9 : decode cL_write 9 = .ok (.astore 4, 2) := by decide +kernel
theorem dL_write_11 : decode cL_write 11 = .ok (.ldc2_w 17, 3) := by decide +kernel
theorem dL_write_14 : decode cL_write 14 = .ok (.lreturn, 1) := by decide +kernel
theorem dL_write_15 : decode cL_write 15 = .ok (.astore 4, 2) := by decide +kernel
theorem dL_write_17 : decode cL_write 17 = .ok (.ldc2_w 21, 3) := by decide +kernel
theorem dL_write_20 : decode cL_write 20 = .ok (.lreturn, 1) := by decide +kernel
abbrev hL_write : List (Nat × Nat × Nat × Nat) := [(0, 8, 9, 15), (0, 8, 15, 19)]
theorem wh_L_write : zYh yL_write cL_write 5 (some .long) hL_write 4 := ⟨(zgt_at 700 (by decide +kernel) (by decide +kernel)), (zgt_at 4 (by decide +kernel) (by decide +kernel)), by decide +kernel, by decide +kernel, by decide +kernel⟩
def P_LAW_write (x1 : Int32) (x2 : Int32) (x3 : Int32) (v0 : TT) (Q : Int64 → TT → Prop) : Prop := P_T_write x1 x2 x3 v0 (fun E v => (E = "java/lang/IllegalArgumentException" → Q (-9000000000000000002) v) ∧ (E = "java/lang/IllegalStateException" → Q (-9000000000000000003) v) ∧ ((¬ E = "java/lang/IllegalArgumentException" ∧ ¬ E = "java/lang/IllegalStateException") → False)) (fun r v => Q (Int32.toInt64 r) v)
set_option maxRecDepth 100000 in
theorem s_LAW_write {l : Launch} {D : zD} {B : Nat} {sa : Nat → Nat} (hfl : l.stackTraces = false) {z : Nat} {G : zG} {b0 : Nat} {x1 : Int32} {x2 : Int32} {x3 : Int32} {v0 : TT} {Q : Int64 → TT → Prop} (h0 : TA b0 v0 G) (h : P_LAW_write x1 x2 x3 v0 Q) : zSh l D B sa yL_write cL_write 5 (some .long) hL_write 8 189 1 6 [.ref b0, .int x1, .int x2, .int x3] z G (zRl fun r z' G' => ∃ w, TA b0 w G' ∧ Fr b0 475 G G' ∧ Q r w) := by
  unfold P_LAW_write at h
  refine z_ofH (by decide +kernel) hfl [some (.ref b0), some (.int x1), some (.int x2), some (.int x3), none] rfl (Nat.le_of_ble_eq_true rfl) (fun p e s m args below meth c O hT hret hlk => ?_)
  have O : zO p l s m args c D B sa 5 cL_write RL := O
  refine z_aload_n O dL_write_0 rfl rfl ?_
  refine z_iload_n O dL_write_1 rfl rfl ?_
  refine z_iload_n O dL_write_2 rfl rfl ?_
  refine z_iload_n O dL_write_3 rfl rfl ?_
  refine z_callXi (As := [.int x1, .int x2, .int x3]) (st := []) O (s_T_write hfl h0 h) wy_X5_write wl_RL_53 dL_write_4 rfl rfl (T_obj h0) ⟨by decide, rfl⟩ ⟨(Nat.le_of_ble_eq_true rfl), (Nat.le_of_ble_eq_true rfl)⟩ (Nat.le_of_ble_eq_true rfl) ⟨(Nat.le_of_ble_eq_true rfl), (Nat.le_of_ble_eq_true rfl)⟩ (fun E z1 G1 hx => ?_) (fun r z1 G1 hq => ?_)
  · obtain ⟨w, k1, k2, hx⟩ := hx
    by_cases e0 : E = "java/lang/IllegalArgumentException"
    · have hc := hx.1 e0
      subst e0
      refine z_catch [] ⟨0, 8, 9, 15⟩ [⟨0, 8, 15, 19⟩] O (hT.trans rfl) (fun z9 hz => absurd hz List.not_mem_nil) (by decide) (by decide) wk_RL_15 (by decide) (fun q9 => ?_)
      refine z_astore (L' := [some (.ref b0), some (.int x1), some (.int x2), some (.int x3), some (.ref q9)]) O dL_write_9 (by decide) rfl ?_
      refine z_ldc2 (v := (-9000000000000000002)) O wc_RL_17 dL_write_11 ?_
      exact z_lret O hret hlk dL_write_14 (Nat.le_of_ble_eq_true rfl) (Nat.le_of_ble_eq_true rfl) ⟨_, rfl, w, k1, k2, hc⟩
    · skip
      by_cases e1 : E = "java/lang/IllegalStateException"
      · have hc := hx.2.1 e1
        subst e1
        refine z_catch [⟨0, 8, 9, 15⟩] ⟨0, 8, 15, 19⟩ [] O (hT.trans rfl) (fun z9 hz => by cases List.mem_singleton.mp hz; exact Or.inr ⟨by decide, _, wk_RL_15, by decide⟩) (by decide) (by decide) wk_RL_19 (by decide) (fun q9 => ?_)
        refine z_astore (L' := [some (.ref b0), some (.int x1), some (.int x2), some (.int x3), some (.ref q9)]) O dL_write_15 (by decide) rfl ?_
        refine z_ldc2 (v := (-9000000000000000003)) O wc_RL_21 dL_write_17 ?_
        exact z_lret O hret hlk dL_write_20 (Nat.le_of_ble_eq_true rfl) (Nat.le_of_ble_eq_true rfl) ⟨_, rfl, w, k1, k2, hc⟩
      · exact (hx.2.2 ⟨e0, e1⟩).elim
  · obtain ⟨rfl, w, k1, k2, h⟩ := hq
    refine z_i2l O dL_write_7 ?_
    exact z_lret O hret hlk dL_write_8 (Nat.le_of_ble_eq_true rfl) (Nat.le_of_ble_eq_true rfl) ⟨_, rfl, w, k1, k2, h⟩
theorem dL_join_0 : decode cL_join 0 = .ok (.aload_n 0, 1) := by decide +kernel
theorem dL_join_1 : decode cL_join 1 = .ok (.iload_n 1, 1) := by decide +kernel
theorem dL_join_2 : decode cL_join 2 = .ok (.iload_n 2, 1) := by decide +kernel
theorem dL_join_3 : decode cL_join 3 = .ok (.iload_n 3, 1) := by decide +kernel
theorem dL_join_4 : decode cL_join 4 = .ok (.invokevirtual 57, 3) := by decide +kernel
theorem dL_join_7 : decode cL_join 7 = .ok (.i2l, 1) := by decide +kernel
theorem dL_join_8 : decode cL_join 8 = .ok (.lreturn, 1) := by decide +kernel
theorem dL_join_9 : decode cL_join 9 = .ok (.astore 4, 2) := by decide +kernel
theorem dL_join_11 : decode cL_join 11 = .ok (.ldc2_w 17, 3) := by decide +kernel
theorem dL_join_14 : decode cL_join 14 = .ok (.lreturn, 1) := by decide +kernel
theorem dL_join_15 : decode cL_join 15 = .ok (.astore 4, 2) := by decide +kernel
theorem dL_join_17 : decode cL_join 17 = .ok (.ldc2_w 21, 3) := by decide +kernel
theorem dL_join_20 : decode cL_join 20 = .ok (.lreturn, 1) := by decide +kernel
abbrev hL_join : List (Nat × Nat × Nat × Nat) := [(0, 8, 9, 15), (0, 8, 15, 19)]
theorem wh_L_join : zYh yL_join cL_join 5 (some .long) hL_join 4 := ⟨(zgt_at 725 (by decide +kernel) (by decide +kernel)), (zgt_at 4 (by decide +kernel) (by decide +kernel)), by decide +kernel, by decide +kernel, by decide +kernel⟩
def P_LAW_join (x1 : Int32) (x2 : Int32) (x3 : Int32) (v0 : TT) (Q : Int64 → TT → Prop) : Prop := P_T_join x1 x2 x3 v0 (fun E v => (E = "java/lang/IllegalArgumentException" → Q (-9000000000000000002) v) ∧ (E = "java/lang/IllegalStateException" → Q (-9000000000000000003) v) ∧ ((¬ E = "java/lang/IllegalArgumentException" ∧ ¬ E = "java/lang/IllegalStateException") → False)) (fun r v => Q (Int32.toInt64 r) v)
set_option maxRecDepth 100000 in
theorem s_LAW_join {l : Launch} {D : zD} {B : Nat} {sa : Nat → Nat} (hfl : l.stackTraces = false) {z : Nat} {G : zG} {b0 : Nat} {x1 : Int32} {x2 : Int32} {x3 : Int32} {v0 : TT} {Q : Int64 → TT → Prop} (h0 : TA b0 v0 G) (h : P_LAW_join x1 x2 x3 v0 Q) : zSh l D B sa yL_join cL_join 5 (some .long) hL_join 8 189 1 6 [.ref b0, .int x1, .int x2, .int x3] z G (zRl fun r z' G' => ∃ w, TA b0 w G' ∧ Fr b0 475 G G' ∧ Q r w) := by
  unfold P_LAW_join at h
  refine z_ofH (by decide +kernel) hfl [some (.ref b0), some (.int x1), some (.int x2), some (.int x3), none] rfl (Nat.le_of_ble_eq_true rfl) (fun p e s m args below meth c O hT hret hlk => ?_)
  have O : zO p l s m args c D B sa 5 cL_join RL := O
  refine z_aload_n O dL_join_0 rfl rfl ?_
  refine z_iload_n O dL_join_1 rfl rfl ?_
  refine z_iload_n O dL_join_2 rfl rfl ?_
  refine z_iload_n O dL_join_3 rfl rfl ?_
  refine z_callXi (As := [.int x1, .int x2, .int x3]) (st := []) O (s_T_join hfl h0 h) wy_X5_join wl_RL_57 dL_join_4 rfl rfl (T_obj h0) ⟨by decide, rfl⟩ ⟨(Nat.le_of_ble_eq_true rfl), (Nat.le_of_ble_eq_true rfl)⟩ (Nat.le_of_ble_eq_true rfl) ⟨(Nat.le_of_ble_eq_true rfl), (Nat.le_of_ble_eq_true rfl)⟩ (fun E z1 G1 hx => ?_) (fun r z1 G1 hq => ?_)
  · obtain ⟨w, k1, k2, hx⟩ := hx
    by_cases e0 : E = "java/lang/IllegalArgumentException"
    · have hc := hx.1 e0
      subst e0
      refine z_catch [] ⟨0, 8, 9, 15⟩ [⟨0, 8, 15, 19⟩] O (hT.trans rfl) (fun z9 hz => absurd hz List.not_mem_nil) (by decide) (by decide) wk_RL_15 (by decide) (fun q9 => ?_)
      refine z_astore (L' := [some (.ref b0), some (.int x1), some (.int x2), some (.int x3), some (.ref q9)]) O dL_join_9 (by decide) rfl ?_
      refine z_ldc2 (v := (-9000000000000000002)) O wc_RL_17 dL_join_11 ?_
      exact z_lret O hret hlk dL_join_14 (Nat.le_of_ble_eq_true rfl) (Nat.le_of_ble_eq_true rfl) ⟨_, rfl, w, k1, k2, hc⟩
    · skip
      by_cases e1 : E = "java/lang/IllegalStateException"
      · have hc := hx.2.1 e1
        subst e1
        refine z_catch [⟨0, 8, 9, 15⟩] ⟨0, 8, 15, 19⟩ [] O (hT.trans rfl) (fun z9 hz => by cases List.mem_singleton.mp hz; exact Or.inr ⟨by decide, _, wk_RL_15, by decide⟩) (by decide) (by decide) wk_RL_19 (by decide) (fun q9 => ?_)
        refine z_astore (L' := [some (.ref b0), some (.int x1), some (.int x2), some (.int x3), some (.ref q9)]) O dL_join_15 (by decide) rfl ?_
        refine z_ldc2 (v := (-9000000000000000003)) O wc_RL_21 dL_join_17 ?_
        exact z_lret O hret hlk dL_join_20 (Nat.le_of_ble_eq_true rfl) (Nat.le_of_ble_eq_true rfl) ⟨_, rfl, w, k1, k2, hc⟩
      · exact (hx.2.2 ⟨e0, e1⟩).elim
  · obtain ⟨rfl, w, k1, k2, h⟩ := hq
    refine z_i2l O dL_join_7 ?_
    exact z_lret O hret hlk dL_join_8 (Nat.le_of_ble_eq_true rfl) (Nat.le_of_ble_eq_true rfl) ⟨_, rfl, w, k1, k2, h⟩
theorem dL_read_0 : decode cL_read 0 = .ok (.aload_n 0, 1) := by decide +kernel
theorem dL_read_1 : decode cL_read 1 = .ok (.iload_n 1, 1) := by decide +kernel
theorem dL_read_2 : decode cL_read 2 = .ok (.iload_n 2, 1) := by decide +kernel
theorem dL_read_3 : decode cL_read 3 = .ok (.invokevirtual 61, 3) := by decide +kernel
theorem dL_read_6 : decode cL_read 6 = .ok (.i2l, 1) := by decide +kernel
theorem dL_read_7 : decode cL_read 7 = .ok (.lreturn, 1) := by decide +kernel
theorem dL_read_8 : decode cL_read 8 = .ok (.astore_n 3, 1) := by decide +kernel
theorem dL_read_9 : decode cL_read 9 = .ok (.ldc2_w 36, 3) := by decide +kernel
theorem dL_read_12 : decode cL_read 12 = .ok (.lreturn, 1) := by decide +kernel
theorem dL_read_13 : decode cL_read 13 = .ok (.astore_n 3, 1) := by decide +kernel
theorem dL_read_14 : decode cL_read 14 = .ok (.ldc2_w 17, 3) := by decide +kernel
theorem dL_read_17 : decode cL_read 17 = .ok (.lreturn, 1) := by decide +kernel
abbrev hL_read : List (Nat × Nat × Nat × Nat) := [(0, 7, 8, 34), (0, 7, 13, 15)]
theorem wh_L_read : zYh yL_read cL_read 4 (some .long) hL_read 3 := ⟨(zgt_at 733 (by decide +kernel) (by decide +kernel)), (zgt_at 4 (by decide +kernel) (by decide +kernel)), by decide +kernel, by decide +kernel, by decide +kernel⟩
def P_LAW_read (x1 : Int32) (x2 : Int32) (v0 : TT) (Q : Int64 → TT → Prop) : Prop := P_T_read x1 x2 v0 (fun E v => (E = "java/lang/IndexOutOfBoundsException" → Q (-9000000000000000001) v) ∧ (E = "java/lang/IllegalArgumentException" → Q (-9000000000000000002) v) ∧ ((¬ E = "java/lang/IndexOutOfBoundsException" ∧ ¬ E = "java/lang/IllegalArgumentException") → False)) (fun r v => Q (Int32.toInt64 r) v)
set_option maxRecDepth 100000 in
theorem s_LAW_read {l : Launch} {D : zD} {B : Nat} {sa : Nat → Nat} (hfl : l.stackTraces = false) {z : Nat} {G : zG} {b0 : Nat} {x1 : Int32} {x2 : Int32} {v0 : TT} {Q : Int64 → TT → Prop} (h0 : TA b0 v0 G) (h : P_LAW_read x1 x2 v0 Q) : zSh l D B sa yL_read cL_read 4 (some .long) hL_read 8 188 1 6 [.ref b0, .int x1, .int x2] z G (zRl fun r z' G' => ∃ w, TA b0 w G' ∧ Fr b0 475 G G' ∧ Q r w) := by
  unfold P_LAW_read at h
  refine z_ofH (by decide +kernel) hfl [some (.ref b0), some (.int x1), some (.int x2), none] rfl (Nat.le_of_ble_eq_true rfl) (fun p e s m args below meth c O hT hret hlk => ?_)
  have O : zO p l s m args c D B sa 4 cL_read RL := O
  refine z_aload_n O dL_read_0 rfl rfl ?_
  refine z_iload_n O dL_read_1 rfl rfl ?_
  refine z_iload_n O dL_read_2 rfl rfl ?_
  refine z_callXi (As := [.int x1, .int x2]) (st := []) O (s_T_read hfl h0 h) wy_X5_read wl_RL_61 dL_read_3 rfl rfl (T_obj h0) ⟨by decide, rfl⟩ ⟨(Nat.le_of_ble_eq_true rfl), (Nat.le_of_ble_eq_true rfl)⟩ (Nat.le_of_ble_eq_true rfl) ⟨(Nat.le_of_ble_eq_true rfl), (Nat.le_of_ble_eq_true rfl)⟩ (fun E z1 G1 hx => ?_) (fun r z1 G1 hq => ?_)
  · obtain ⟨w, k1, k2, hx⟩ := hx
    by_cases e0 : E = "java/lang/IndexOutOfBoundsException"
    · have hc := hx.1 e0
      subst e0
      refine z_catch [] ⟨0, 7, 8, 34⟩ [⟨0, 7, 13, 15⟩] O (hT.trans rfl) (fun z9 hz => absurd hz List.not_mem_nil) (by decide) (by decide) wk_RL_34 (by decide) (fun q9 => ?_)
      refine z_astore_n (L' := [some (.ref b0), some (.int x1), some (.int x2), some (.ref q9)]) O dL_read_8 rfl (by decide) rfl ?_
      refine z_ldc2 (v := (-9000000000000000001)) O wc_RL_36 dL_read_9 ?_
      exact z_lret O hret hlk dL_read_12 (Nat.le_of_ble_eq_true rfl) (Nat.le_of_ble_eq_true rfl) ⟨_, rfl, w, k1, k2, hc⟩
    · skip
      by_cases e1 : E = "java/lang/IllegalArgumentException"
      · have hc := hx.2.1 e1
        subst e1
        refine z_catch [⟨0, 7, 8, 34⟩] ⟨0, 7, 13, 15⟩ [] O (hT.trans rfl) (fun z9 hz => by cases List.mem_singleton.mp hz; exact Or.inr ⟨by decide, _, wk_RL_34, by decide⟩) (by decide) (by decide) wk_RL_15 (by decide) (fun q9 => ?_)
        refine z_astore_n (L' := [some (.ref b0), some (.int x1), some (.int x2), some (.ref q9)]) O dL_read_13 rfl (by decide) rfl ?_
        refine z_ldc2 (v := (-9000000000000000002)) O wc_RL_17 dL_read_14 ?_
        exact z_lret O hret hlk dL_read_17 (Nat.le_of_ble_eq_true rfl) (Nat.le_of_ble_eq_true rfl) ⟨_, rfl, w, k1, k2, hc⟩
      · exact (hx.2.2 ⟨e0, e1⟩).elim
  · obtain ⟨rfl, w, k1, k2, h⟩ := hq
    refine z_i2l O dL_read_6 ?_
    exact z_lret O hret hlk dL_read_7 (Nat.le_of_ble_eq_true rfl) (Nat.le_of_ble_eq_true rfl) ⟨_, rfl, w, k1, k2, h⟩
theorem dL_leave_0 : decode cL_leave 0 = .ok (.aload_n 0, 1) := by decide +kernel
theorem dL_leave_1 : decode cL_leave 1 = .ok (.iload_n 1, 1) := by decide +kernel
theorem dL_leave_2 : decode cL_leave 2 = .ok (.invokevirtual 64, 3) := by decide +kernel
theorem dL_leave_5 : decode cL_leave 5 = .ok (.i2l, 1) := by decide +kernel
theorem dL_leave_6 : decode cL_leave 6 = .ok (.lreturn, 1) := by decide +kernel
theorem dL_leave_7 : decode cL_leave 7 = .ok (.astore_n 2, 1) := by decide +kernel
theorem dL_leave_8 : decode cL_leave 8 = .ok (.ldc2_w 36, 3) := by decide +kernel
theorem dL_leave_11 : decode cL_leave 11 = .ok (.lreturn, 1) := by decide +kernel
abbrev hL_leave : List (Nat × Nat × Nat × Nat) := [(0, 6, 7, 34)]
theorem wh_L_leave : zYh yL_leave cL_leave 3 (some .long) hL_leave 2 := ⟨(zgt_at 740 (by decide +kernel) (by decide +kernel)), (zgt_at 4 (by decide +kernel) (by decide +kernel)), by decide +kernel, by decide +kernel, by decide +kernel⟩
def P_LAW_leave (x1 : Int32) (v0 : TT) (Q : Int64 → TT → Prop) : Prop := P_T_leave x1 v0 (fun E v => (E = "java/lang/IndexOutOfBoundsException" → Q (-9000000000000000001) v) ∧ ((¬ E = "java/lang/IndexOutOfBoundsException") → False)) (fun r v => Q (Int32.toInt64 r) v)
set_option maxRecDepth 100000 in
theorem s_LAW_leave {l : Launch} {D : zD} {B : Nat} {sa : Nat → Nat} (hfl : l.stackTraces = false) {z : Nat} {G : zG} {b0 : Nat} {x1 : Int32} {v0 : TT} {Q : Int64 → TT → Prop} (h0 : TA b0 v0 G) (h : P_LAW_leave x1 v0 Q) : zSh l D B sa yL_leave cL_leave 3 (some .long) hL_leave 8 187 1 6 [.ref b0, .int x1] z G (zRl fun r z' G' => ∃ w, TA b0 w G' ∧ Fr b0 475 G G' ∧ Q r w) := by
  unfold P_LAW_leave at h
  refine z_ofH (by decide +kernel) hfl [some (.ref b0), some (.int x1), none] rfl (Nat.le_of_ble_eq_true rfl) (fun p e s m args below meth c O hT hret hlk => ?_)
  have O : zO p l s m args c D B sa 3 cL_leave RL := O
  refine z_aload_n O dL_leave_0 rfl rfl ?_
  refine z_iload_n O dL_leave_1 rfl rfl ?_
  refine z_callXi (As := [.int x1]) (st := []) O (s_T_leave hfl h0 h) wy_X5_leave wl_RL_64 dL_leave_2 rfl rfl (T_obj h0) ⟨by decide, rfl⟩ ⟨(Nat.le_of_ble_eq_true rfl), (Nat.le_of_ble_eq_true rfl)⟩ (Nat.le_of_ble_eq_true rfl) ⟨(Nat.le_of_ble_eq_true rfl), (Nat.le_of_ble_eq_true rfl)⟩ (fun E z1 G1 hx => ?_) (fun r z1 G1 hq => ?_)
  · obtain ⟨w, k1, k2, hx⟩ := hx
    by_cases e0 : E = "java/lang/IndexOutOfBoundsException"
    · have hc := hx.1 e0
      subst e0
      refine z_catch [] ⟨0, 6, 7, 34⟩ [] O (hT.trans rfl) (fun z9 hz => absurd hz List.not_mem_nil) (by decide) (by decide) wk_RL_34 (by decide) (fun q9 => ?_)
      refine z_astore_n (L' := [some (.ref b0), some (.int x1), some (.ref q9)]) O dL_leave_7 rfl (by decide) rfl ?_
      refine z_ldc2 (v := (-9000000000000000001)) O wc_RL_36 dL_leave_8 ?_
      exact z_lret O hret hlk dL_leave_11 (Nat.le_of_ble_eq_true rfl) (Nat.le_of_ble_eq_true rfl) ⟨_, rfl, w, k1, k2, hc⟩
    · exact (hx.2 e0).elim
  · obtain ⟨rfl, w, k1, k2, h⟩ := hq
    refine z_i2l O dL_leave_5 ?_
    exact z_lret O hret hlk dL_leave_6 (Nat.le_of_ble_eq_true rfl) (Nat.le_of_ble_eq_true rfl) ⟨_, rfl, w, k1, k2, h⟩
theorem dL_hold_0 : decode cL_hold 0 = .ok (.aload_n 0, 1) := by decide +kernel
theorem dL_hold_1 : decode cL_hold 1 = .ok (.iload_n 1, 1) := by decide +kernel
theorem dL_hold_2 : decode cL_hold 2 = .ok (.iload_n 2, 1) := by decide +kernel
theorem dL_hold_3 : decode cL_hold 3 = .ok (.invokevirtual 67, 3) := by decide +kernel
theorem dL_hold_6 : decode cL_hold 6 = .ok (.i2l, 1) := by decide +kernel
theorem dL_hold_7 : decode cL_hold 7 = .ok (.lreturn, 1) := by decide +kernel
theorem dL_hold_8 : decode cL_hold 8 = .ok (.astore_n 3, 1) := by decide +kernel
theorem dL_hold_9 : decode cL_hold 9 = .ok (.ldc2_w 36, 3) := by decide +kernel
theorem dL_hold_12 : decode cL_hold 12 = .ok (.lreturn, 1) := by decide +kernel
theorem dL_hold_13 : decode cL_hold 13 = .ok (.astore_n 3, 1) := by decide +kernel
theorem dL_hold_14 : decode cL_hold 14 = .ok (.ldc2_w 21, 3) := by decide +kernel
theorem dL_hold_17 : decode cL_hold 17 = .ok (.lreturn, 1) := by decide +kernel
abbrev hL_hold : List (Nat × Nat × Nat × Nat) := [(0, 7, 8, 34), (0, 7, 13, 19)]
theorem wh_L_hold : zYh yL_hold cL_hold 4 (some .long) hL_hold 3 := ⟨(zgt_at 747 (by decide +kernel) (by decide +kernel)), (zgt_at 4 (by decide +kernel) (by decide +kernel)), by decide +kernel, by decide +kernel, by decide +kernel⟩
def P_LAW_hold (x1 : Int32) (x2 : Int32) (v0 : TT) (Q : Int64 → TT → Prop) : Prop := P_T_hold x1 x2 v0 (fun E v => (E = "java/lang/IndexOutOfBoundsException" → Q (-9000000000000000001) v) ∧ (E = "java/lang/IllegalStateException" → Q (-9000000000000000003) v) ∧ ((¬ E = "java/lang/IndexOutOfBoundsException" ∧ ¬ E = "java/lang/IllegalStateException") → False)) (fun r v => Q (Int32.toInt64 r) v)
set_option maxRecDepth 100000 in
theorem s_LAW_hold {l : Launch} {D : zD} {B : Nat} {sa : Nat → Nat} (hfl : l.stackTraces = false) {z : Nat} {G : zG} {b0 : Nat} {x1 : Int32} {x2 : Int32} {v0 : TT} {Q : Int64 → TT → Prop} (h0 : TA b0 v0 G) (h : P_LAW_hold x1 x2 v0 Q) : zSh l D B sa yL_hold cL_hold 4 (some .long) hL_hold 8 188 1 6 [.ref b0, .int x1, .int x2] z G (zRl fun r z' G' => ∃ w, TA b0 w G' ∧ Fr b0 475 G G' ∧ Q r w) := by
  unfold P_LAW_hold at h
  refine z_ofH (by decide +kernel) hfl [some (.ref b0), some (.int x1), some (.int x2), none] rfl (Nat.le_of_ble_eq_true rfl) (fun p e s m args below meth c O hT hret hlk => ?_)
  have O : zO p l s m args c D B sa 4 cL_hold RL := O
  refine z_aload_n O dL_hold_0 rfl rfl ?_
  refine z_iload_n O dL_hold_1 rfl rfl ?_
  refine z_iload_n O dL_hold_2 rfl rfl ?_
  refine z_callXi (As := [.int x1, .int x2]) (st := []) O (s_T_hold hfl h0 h) wy_X5_hold wl_RL_67 dL_hold_3 rfl rfl (T_obj h0) ⟨by decide, rfl⟩ ⟨(Nat.le_of_ble_eq_true rfl), (Nat.le_of_ble_eq_true rfl)⟩ (Nat.le_of_ble_eq_true rfl) ⟨(Nat.le_of_ble_eq_true rfl), (Nat.le_of_ble_eq_true rfl)⟩ (fun E z1 G1 hx => ?_) (fun r z1 G1 hq => ?_)
  · obtain ⟨w, k1, k2, hx⟩ := hx
    by_cases e0 : E = "java/lang/IndexOutOfBoundsException"
    · have hc := hx.1 e0
      subst e0
      refine z_catch [] ⟨0, 7, 8, 34⟩ [⟨0, 7, 13, 19⟩] O (hT.trans rfl) (fun z9 hz => absurd hz List.not_mem_nil) (by decide) (by decide) wk_RL_34 (by decide) (fun q9 => ?_)
      refine z_astore_n (L' := [some (.ref b0), some (.int x1), some (.int x2), some (.ref q9)]) O dL_hold_8 rfl (by decide) rfl ?_
      refine z_ldc2 (v := (-9000000000000000001)) O wc_RL_36 dL_hold_9 ?_
      exact z_lret O hret hlk dL_hold_12 (Nat.le_of_ble_eq_true rfl) (Nat.le_of_ble_eq_true rfl) ⟨_, rfl, w, k1, k2, hc⟩
    · skip
      by_cases e1 : E = "java/lang/IllegalStateException"
      · have hc := hx.2.1 e1
        subst e1
        refine z_catch [⟨0, 7, 8, 34⟩] ⟨0, 7, 13, 19⟩ [] O (hT.trans rfl) (fun z9 hz => by cases List.mem_singleton.mp hz; exact Or.inr ⟨by decide, _, wk_RL_34, by decide⟩) (by decide) (by decide) wk_RL_19 (by decide) (fun q9 => ?_)
        refine z_astore_n (L' := [some (.ref b0), some (.int x1), some (.int x2), some (.ref q9)]) O dL_hold_13 rfl (by decide) rfl ?_
        refine z_ldc2 (v := (-9000000000000000003)) O wc_RL_21 dL_hold_14 ?_
        exact z_lret O hret hlk dL_hold_17 (Nat.le_of_ble_eq_true rfl) (Nat.le_of_ble_eq_true rfl) ⟨_, rfl, w, k1, k2, hc⟩
      · exact (hx.2.2 ⟨e0, e1⟩).elim
  · obtain ⟨rfl, w, k1, k2, h⟩ := hq
    refine z_i2l O dL_hold_6 ?_
    exact z_lret O hret hlk dL_hold_7 (Nat.le_of_ble_eq_true rfl) (Nat.le_of_ble_eq_true rfl) ⟨_, rfl, w, k1, k2, h⟩
theorem dL_set_0 : decode cL_set 0 = .ok (.aload_n 0, 1) := by decide +kernel
theorem dL_set_1 : decode cL_set 1 = .ok (.iload_n 1, 1) := by decide +kernel
theorem dL_set_2 : decode cL_set 2 = .ok (.iload_n 2, 1) := by decide +kernel
theorem dL_set_3 : decode cL_set 3 = .ok (.invokevirtual 71, 3) := by decide +kernel
theorem dL_set_6 : decode cL_set 6 = .ok (.i2l, 1) := by decide +kernel
theorem dL_set_7 : decode cL_set 7 = .ok (.lreturn, 1) := by decide +kernel
theorem dL_set_8 : decode cL_set 8 = .ok (.astore_n 3, 1) := by decide +kernel
theorem dL_set_9 : decode cL_set 9 = .ok (.ldc2_w 17, 3) := by decide +kernel
theorem dL_set_12 : decode cL_set 12 = .ok (.lreturn, 1) := by decide +kernel
abbrev hL_set : List (Nat × Nat × Nat × Nat) := [(0, 7, 8, 15)]
theorem wh_L_set : zYh yL_set cL_set 4 (some .long) hL_set 3 := ⟨(zgt_at 754 (by decide +kernel) (by decide +kernel)), (zgt_at 4 (by decide +kernel) (by decide +kernel)), by decide +kernel, by decide +kernel, by decide +kernel⟩
def P_LAW_set (x1 : Int32) (x2 : Int32) (v0 : TT) (Q : Int64 → TT → Prop) : Prop := P_T_set x1 x2 v0 (fun E v => (E = "java/lang/IllegalArgumentException" → Q (-9000000000000000002) v) ∧ ((¬ E = "java/lang/IllegalArgumentException") → False)) (fun r v => Q (Int32.toInt64 r) v)
set_option maxRecDepth 100000 in
theorem s_LAW_set {l : Launch} {D : zD} {B : Nat} {sa : Nat → Nat} (hfl : l.stackTraces = false) {z : Nat} {G : zG} {b0 : Nat} {x1 : Int32} {x2 : Int32} {v0 : TT} {Q : Int64 → TT → Prop} (h0 : TA b0 v0 G) (h : P_LAW_set x1 x2 v0 Q) : zSh l D B sa yL_set cL_set 4 (some .long) hL_set 8 188 1 6 [.ref b0, .int x1, .int x2] z G (zRl fun r z' G' => ∃ w, TA b0 w G' ∧ Fr b0 475 G G' ∧ Q r w) := by
  unfold P_LAW_set at h
  refine z_ofH (by decide +kernel) hfl [some (.ref b0), some (.int x1), some (.int x2), none] rfl (Nat.le_of_ble_eq_true rfl) (fun p e s m args below meth c O hT hret hlk => ?_)
  have O : zO p l s m args c D B sa 4 cL_set RL := O
  refine z_aload_n O dL_set_0 rfl rfl ?_
  refine z_iload_n O dL_set_1 rfl rfl ?_
  refine z_iload_n O dL_set_2 rfl rfl ?_
  refine z_callXi (As := [.int x1, .int x2]) (st := []) O (s_T_set hfl h0 h) wy_X5_set wl_RL_71 dL_set_3 rfl rfl (T_obj h0) ⟨by decide, rfl⟩ ⟨(Nat.le_of_ble_eq_true rfl), (Nat.le_of_ble_eq_true rfl)⟩ (Nat.le_of_ble_eq_true rfl) ⟨(Nat.le_of_ble_eq_true rfl), (Nat.le_of_ble_eq_true rfl)⟩ (fun E z1 G1 hx => ?_) (fun r z1 G1 hq => ?_)
  · obtain ⟨w, k1, k2, hx⟩ := hx
    by_cases e0 : E = "java/lang/IllegalArgumentException"
    · have hc := hx.1 e0
      subst e0
      refine z_catch [] ⟨0, 7, 8, 15⟩ [] O (hT.trans rfl) (fun z9 hz => absurd hz List.not_mem_nil) (by decide) (by decide) wk_RL_15 (by decide) (fun q9 => ?_)
      refine z_astore_n (L' := [some (.ref b0), some (.int x1), some (.int x2), some (.ref q9)]) O dL_set_8 rfl (by decide) rfl ?_
      refine z_ldc2 (v := (-9000000000000000002)) O wc_RL_17 dL_set_9 ?_
      exact z_lret O hret hlk dL_set_12 (Nat.le_of_ble_eq_true rfl) (Nat.le_of_ble_eq_true rfl) ⟨_, rfl, w, k1, k2, hc⟩
    · exact (hx.2 e0).elim
  · obtain ⟨rfl, w, k1, k2, h⟩ := hq
    refine z_i2l O dL_set_6 ?_
    exact z_lret O hret hlk dL_set_7 (Nat.le_of_ble_eq_true rfl) (Nat.le_of_ble_eq_true rfl) ⟨_, rfl, w, k1, k2, h⟩
theorem dL_ticks_0 : decode cL_ticks 0 = .ok (.aload_n 0, 1) := by decide +kernel
theorem dL_ticks_1 : decode cL_ticks 1 = .ok (.iload_n 1, 1) := by decide +kernel
theorem dL_ticks_2 : decode cL_ticks 2 = .ok (.invokevirtual 74, 3) := by decide +kernel
theorem dL_ticks_5 : decode cL_ticks 5 = .ok (.i2l, 1) := by decide +kernel
theorem dL_ticks_6 : decode cL_ticks 6 = .ok (.lreturn, 1) := by decide +kernel
theorem dL_ticks_7 : decode cL_ticks 7 = .ok (.astore_n 2, 1) := by decide +kernel
theorem dL_ticks_8 : decode cL_ticks 8 = .ok (.ldc2_w 17, 3) := by decide +kernel
theorem dL_ticks_11 : decode cL_ticks 11 = .ok (.lreturn, 1) := by decide +kernel
abbrev hL_ticks : List (Nat × Nat × Nat × Nat) := [(0, 6, 7, 15)]
theorem wh_L_ticks : zYh yL_ticks cL_ticks 3 (some .long) hL_ticks 2 := ⟨(zgt_at 785 (by decide +kernel) (by decide +kernel)), (zgt_at 4 (by decide +kernel) (by decide +kernel)), by decide +kernel, by decide +kernel, by decide +kernel⟩
def P_LAW_ticks (x1 : Int32) (v0 : TT) (Q : Int64 → TT → Prop) : Prop := P_T_ticks x1 v0 (fun E v => (E = "java/lang/IllegalArgumentException" → Q (-9000000000000000002) v) ∧ ((¬ E = "java/lang/IllegalArgumentException") → False)) (fun r v => Q (Int32.toInt64 r) v)
set_option maxRecDepth 100000 in
theorem s_LAW_ticks {l : Launch} {D : zD} {B : Nat} {sa : Nat → Nat} (hfl : l.stackTraces = false) {z : Nat} {G : zG} {b0 : Nat} {x1 : Int32} {v0 : TT} {Q : Int64 → TT → Prop} (h0 : TA b0 v0 G) (h : P_LAW_ticks x1 v0 Q) : zSh l D B sa yL_ticks cL_ticks 3 (some .long) hL_ticks 8 187 1 6 [.ref b0, .int x1] z G (zRl fun r z' G' => ∃ w, TA b0 w G' ∧ Fr b0 475 G G' ∧ Q r w) := by
  unfold P_LAW_ticks at h
  refine z_ofH (by decide +kernel) hfl [some (.ref b0), some (.int x1), none] rfl (Nat.le_of_ble_eq_true rfl) (fun p e s m args below meth c O hT hret hlk => ?_)
  have O : zO p l s m args c D B sa 3 cL_ticks RL := O
  refine z_aload_n O dL_ticks_0 rfl rfl ?_
  refine z_iload_n O dL_ticks_1 rfl rfl ?_
  refine z_callXi (As := [.int x1]) (st := []) O (s_T_ticks hfl h0 h) wy_X5_ticks wl_RL_74 dL_ticks_2 rfl rfl (T_obj h0) ⟨by decide, rfl⟩ ⟨(Nat.le_of_ble_eq_true rfl), (Nat.le_of_ble_eq_true rfl)⟩ (Nat.le_of_ble_eq_true rfl) ⟨(Nat.le_of_ble_eq_true rfl), (Nat.le_of_ble_eq_true rfl)⟩ (fun E z1 G1 hx => ?_) (fun r z1 G1 hq => ?_)
  · obtain ⟨w, k1, k2, hx⟩ := hx
    by_cases e0 : E = "java/lang/IllegalArgumentException"
    · have hc := hx.1 e0
      subst e0
      refine z_catch [] ⟨0, 6, 7, 15⟩ [] O (hT.trans rfl) (fun z9 hz => absurd hz List.not_mem_nil) (by decide) (by decide) wk_RL_15 (by decide) (fun q9 => ?_)
      refine z_astore_n (L' := [some (.ref b0), some (.int x1), some (.ref q9)]) O dL_ticks_7 rfl (by decide) rfl ?_
      refine z_ldc2 (v := (-9000000000000000002)) O wc_RL_17 dL_ticks_8 ?_
      exact z_lret O hret hlk dL_ticks_11 (Nat.le_of_ble_eq_true rfl) (Nat.le_of_ble_eq_true rfl) ⟨_, rfl, w, k1, k2, hc⟩
    · exact (hx.2 e0).elim
  · obtain ⟨rfl, w, k1, k2, h⟩ := hq
    refine z_i2l O dL_ticks_5 ?_
    exact z_lret O hret hlk dL_ticks_6 (Nat.le_of_ble_eq_true rfl) (Nat.le_of_ble_eq_true rfl) ⟨_, rfl, w, k1, k2, h⟩
theorem dL_undo_0 : decode cL_undo 0 = .ok (.aload_n 0, 1) := by decide +kernel
theorem dL_undo_1 : decode cL_undo 1 = .ok (.invokevirtual 77, 3) := by decide +kernel
theorem dL_undo_4 : decode cL_undo 4 = .ok (.i2l, 1) := by decide +kernel
theorem dL_undo_5 : decode cL_undo 5 = .ok (.lreturn, 1) := by decide +kernel
theorem dL_undo_6 : decode cL_undo 6 = .ok (.astore_n 1, 1) := by decide +kernel
theorem dL_undo_7 : decode cL_undo 7 = .ok (.ldc2_w 21, 3) := by decide +kernel
theorem dL_undo_10 : decode cL_undo 10 = .ok (.lreturn, 1) := by decide +kernel
abbrev hL_undo : List (Nat × Nat × Nat × Nat) := [(0, 5, 6, 19)]
theorem wh_L_undo : zYh yL_undo cL_undo 2 (some .long) hL_undo 1 := ⟨(zgt_at 899 (by decide +kernel) (by decide +kernel)), (zgt_at 4 (by decide +kernel) (by decide +kernel)), by decide +kernel, by decide +kernel, by decide +kernel⟩
def P_LAW_undo  (v0 : TT) (Q : Int64 → TT → Prop) : Prop := P_T_undo  v0 (fun E v => (E = "java/lang/IllegalStateException" → Q (-9000000000000000003) v) ∧ ((¬ E = "java/lang/IllegalStateException") → False)) (fun r v => Q (Int32.toInt64 r) v)
set_option maxRecDepth 100000 in
theorem s_LAW_undo {l : Launch} {D : zD} {B : Nat} {sa : Nat → Nat} (hfl : l.stackTraces = false) {z : Nat} {G : zG} {b0 : Nat}  {v0 : TT} {Q : Int64 → TT → Prop} (h0 : TA b0 v0 G) (h : P_LAW_undo  v0 Q) : zSh l D B sa yL_undo cL_undo 2 (some .long) hL_undo 7 159 1 6 [.ref b0] z G (zRl fun r z' G' => ∃ w, TA b0 w G' ∧ Fr b0 475 G G' ∧ Q r w) := by
  unfold P_LAW_undo at h
  refine z_ofH (by decide +kernel) hfl [some (.ref b0), none] rfl (Nat.le_of_ble_eq_true rfl) (fun p e s m args below meth c O hT hret hlk => ?_)
  have O : zO p l s m args c D B sa 2 cL_undo RL := O
  refine z_aload_n O dL_undo_0 rfl rfl ?_
  refine z_callXi (As := []) (st := []) O (s_T_undo hfl h0 h) wy_X5_undo wl_RL_77 dL_undo_1 rfl rfl (T_obj h0) ⟨by decide, rfl⟩ ⟨(Nat.le_of_ble_eq_true rfl), (Nat.le_of_ble_eq_true rfl)⟩ (Nat.le_of_ble_eq_true rfl) ⟨(Nat.le_of_ble_eq_true rfl), (Nat.le_of_ble_eq_true rfl)⟩ (fun E z1 G1 hx => ?_) (fun r z1 G1 hq => ?_)
  · obtain ⟨w, k1, k2, hx⟩ := hx
    by_cases e0 : E = "java/lang/IllegalStateException"
    · have hc := hx.1 e0
      subst e0
      refine z_catch [] ⟨0, 5, 6, 19⟩ [] O (hT.trans rfl) (fun z9 hz => absurd hz List.not_mem_nil) (by decide) (by decide) wk_RL_19 (by decide) (fun q9 => ?_)
      refine z_astore_n (L' := [some (.ref b0), some (.ref q9)]) O dL_undo_6 rfl (by decide) rfl ?_
      refine z_ldc2 (v := (-9000000000000000003)) O wc_RL_21 dL_undo_7 ?_
      exact z_lret O hret hlk dL_undo_10 (Nat.le_of_ble_eq_true rfl) (Nat.le_of_ble_eq_true rfl) ⟨_, rfl, w, k1, k2, hc⟩
    · exact (hx.2 e0).elim
  · obtain ⟨rfl, w, k1, k2, h⟩ := hq
    refine z_i2l O dL_undo_4 ?_
    exact z_lret O hret hlk dL_undo_5 (Nat.le_of_ble_eq_true rfl) (Nat.le_of_ble_eq_true rfl) ⟨_, rfl, w, k1, k2, h⟩
theorem dL_truth_0 : decode cL_truth 0 = .ok (.aload_n 0, 1) := by decide +kernel
theorem dL_truth_1 : decode cL_truth 1 = .ok (.iload_n 1, 1) := by decide +kernel
theorem dL_truth_2 : decode cL_truth 2 = .ok (.iload_n 2, 1) := by decide +kernel
theorem dL_truth_3 : decode cL_truth 3 = .ok (.iload_n 3, 1) := by decide +kernel
theorem dL_truth_4 : decode cL_truth 4 = .ok (.invokevirtual 80, 3) := by decide +kernel
theorem dL_truth_7 : decode cL_truth 7 = .ok (.i2l, 1) := by decide +kernel
theorem dL_truth_8 : decode cL_truth 8 = .ok (.lreturn, 1) := by decide +kernel
theorem dL_truth_9 : decode cL_truth 9 = .ok (.astore 4, 2) := by decide +kernel
theorem dL_truth_11 : decode cL_truth 11 = .ok (.ldc2_w 36, 3) := by decide +kernel
theorem dL_truth_14 : decode cL_truth 14 = .ok (.lreturn, 1) := by decide +kernel
theorem dL_truth_15 : decode cL_truth 15 = .ok (.astore 4, 2) := by decide +kernel
theorem dL_truth_17 : decode cL_truth 17 = .ok (.ldc2_w 17, 3) := by decide +kernel
theorem dL_truth_20 : decode cL_truth 20 = .ok (.lreturn, 1) := by decide +kernel
abbrev hL_truth : List (Nat × Nat × Nat × Nat) := [(0, 8, 9, 34), (0, 8, 15, 15)]
theorem wh_L_truth : zYh yL_truth cL_truth 5 (some .long) hL_truth 4 := ⟨(zgt_at 792 (by decide +kernel) (by decide +kernel)), (zgt_at 4 (by decide +kernel) (by decide +kernel)), by decide +kernel, by decide +kernel, by decide +kernel⟩
def P_LAW_truth (x1 : Int32) (x2 : Int32) (x3 : Int32) (v0 : TT) (Q : Int64 → Prop) : Prop := P_T_truth x1 x2 x3 v0 (fun E => (E = "java/lang/IndexOutOfBoundsException" → Q (-9000000000000000001)) ∧ (E = "java/lang/IllegalArgumentException" → Q (-9000000000000000002)) ∧ ((¬ E = "java/lang/IndexOutOfBoundsException" ∧ ¬ E = "java/lang/IllegalArgumentException") → False)) (fun r => Q (Int32.toInt64 r))
set_option maxRecDepth 100000 in
theorem s_LAW_truth {l : Launch} {D : zD} {B : Nat} {sa : Nat → Nat} (hfl : l.stackTraces = false) {z : Nat} {G : zG} {b0 : Nat} {x1 : Int32} {x2 : Int32} {x3 : Int32} {v0 : TT} {Q : Int64 → Prop} (h0 : TA b0 v0 G) (h : P_LAW_truth x1 x2 x3 v0 Q) : zSh l D B sa yL_truth cL_truth 5 (some .long) hL_truth 7 113 1 6 [.ref b0, .int x1, .int x2, .int x3] z G (zRl fun r z' G' => G = G' ∧ Q r) := by
  unfold P_LAW_truth at h
  refine z_ofH (by decide +kernel) hfl [some (.ref b0), some (.int x1), some (.int x2), some (.int x3), none] rfl (Nat.le_of_ble_eq_true rfl) (fun p e s m args below meth c O hT hret hlk => ?_)
  have O : zO p l s m args c D B sa 5 cL_truth RL := O
  refine z_aload_n O dL_truth_0 rfl rfl ?_
  refine z_iload_n O dL_truth_1 rfl rfl ?_
  refine z_iload_n O dL_truth_2 rfl rfl ?_
  refine z_iload_n O dL_truth_3 rfl rfl ?_
  refine z_callXi (As := [.int x1, .int x2, .int x3]) (st := []) O (s_T_truth hfl h0 h) wy_X5_truth wl_RL_80 dL_truth_4 rfl rfl (T_obj h0) ⟨by decide, rfl⟩ ⟨(Nat.le_of_ble_eq_true rfl), (Nat.le_of_ble_eq_true rfl)⟩ (Nat.le_of_ble_eq_true rfl) ⟨(Nat.le_of_ble_eq_true rfl), (Nat.le_of_ble_eq_true rfl)⟩ (fun E z1 G1 hx => ?_) (fun r z1 G1 hq => ?_)
  · obtain ⟨rfl, hx⟩ := hx
    by_cases e0 : E = "java/lang/IndexOutOfBoundsException"
    · have hc := hx.1 e0
      subst e0
      refine z_catch [] ⟨0, 8, 9, 34⟩ [⟨0, 8, 15, 15⟩] O (hT.trans rfl) (fun z9 hz => absurd hz List.not_mem_nil) (by decide) (by decide) wk_RL_34 (by decide) (fun q9 => ?_)
      refine z_astore (L' := [some (.ref b0), some (.int x1), some (.int x2), some (.int x3), some (.ref q9)]) O dL_truth_9 (by decide) rfl ?_
      refine z_ldc2 (v := (-9000000000000000001)) O wc_RL_36 dL_truth_11 ?_
      exact z_lret O hret hlk dL_truth_14 (Nat.le_of_ble_eq_true rfl) (Nat.le_of_ble_eq_true rfl) ⟨_, rfl, rfl, hc⟩
    · skip
      by_cases e1 : E = "java/lang/IllegalArgumentException"
      · have hc := hx.2.1 e1
        subst e1
        refine z_catch [⟨0, 8, 9, 34⟩] ⟨0, 8, 15, 15⟩ [] O (hT.trans rfl) (fun z9 hz => by cases List.mem_singleton.mp hz; exact Or.inr ⟨by decide, _, wk_RL_34, by decide⟩) (by decide) (by decide) wk_RL_15 (by decide) (fun q9 => ?_)
        refine z_astore (L' := [some (.ref b0), some (.int x1), some (.int x2), some (.int x3), some (.ref q9)]) O dL_truth_15 (by decide) rfl ?_
        refine z_ldc2 (v := (-9000000000000000002)) O wc_RL_17 dL_truth_17 ?_
        exact z_lret O hret hlk dL_truth_20 (Nat.le_of_ble_eq_true rfl) (Nat.le_of_ble_eq_true rfl) ⟨_, rfl, rfl, hc⟩
      · exact (hx.2.2 ⟨e0, e1⟩).elim
  · obtain ⟨rfl, rfl, h⟩ := hq
    refine z_i2l O dL_truth_7 ?_
    exact z_lret O hret hlk dL_truth_8 (Nat.le_of_ble_eq_true rfl) (Nat.le_of_ble_eq_true rfl) ⟨_, rfl, rfl, h⟩
theorem dL_lostIn_0 : decode cL_lostIn 0 = .ok (.aload_n 0, 1) := by decide +kernel
theorem dL_lostIn_1 : decode cL_lostIn 1 = .ok (.iload_n 1, 1) := by decide +kernel
theorem dL_lostIn_2 : decode cL_lostIn 2 = .ok (.invokevirtual 83, 3) := by decide +kernel
theorem dL_lostIn_5 : decode cL_lostIn 5 = .ok (.i2l, 1) := by decide +kernel
theorem dL_lostIn_6 : decode cL_lostIn 6 = .ok (.lreturn, 1) := by decide +kernel
theorem dL_lostIn_7 : decode cL_lostIn 7 = .ok (.astore_n 2, 1) := by decide +kernel
theorem dL_lostIn_8 : decode cL_lostIn 8 = .ok (.ldc2_w 36, 3) := by decide +kernel
theorem dL_lostIn_11 : decode cL_lostIn 11 = .ok (.lreturn, 1) := by decide +kernel
abbrev hL_lostIn : List (Nat × Nat × Nat × Nat) := [(0, 6, 7, 34)]
theorem wh_L_lostIn : zYh yL_lostIn cL_lostIn 3 (some .long) hL_lostIn 2 := ⟨(zgt_at 761 (by decide +kernel) (by decide +kernel)), (zgt_at 4 (by decide +kernel) (by decide +kernel)), by decide +kernel, by decide +kernel, by decide +kernel⟩
def P_LAW_lostIn (x1 : Int32) (v0 : TT) (Q : Int64 → TT → Prop) : Prop := P_T_lostIn x1 v0 (fun E v => (E = "java/lang/IndexOutOfBoundsException" → Q (-9000000000000000001) v) ∧ ((¬ E = "java/lang/IndexOutOfBoundsException") → False)) (fun r v => Q (Int32.toInt64 r) v)
set_option maxRecDepth 100000 in
theorem s_LAW_lostIn {l : Launch} {D : zD} {B : Nat} {sa : Nat → Nat} (hfl : l.stackTraces = false) {z : Nat} {G : zG} {b0 : Nat} {x1 : Int32} {v0 : TT} {Q : Int64 → TT → Prop} (h0 : TA b0 v0 G) (h : P_LAW_lostIn x1 v0 Q) : zSh l D B sa yL_lostIn cL_lostIn 3 (some .long) hL_lostIn 7 161 1 6 [.ref b0, .int x1] z G (zRl fun r z' G' => ∃ w, TA b0 w G' ∧ Fr b0 475 G G' ∧ Q r w) := by
  unfold P_LAW_lostIn at h
  refine z_ofH (by decide +kernel) hfl [some (.ref b0), some (.int x1), none] rfl (Nat.le_of_ble_eq_true rfl) (fun p e s m args below meth c O hT hret hlk => ?_)
  have O : zO p l s m args c D B sa 3 cL_lostIn RL := O
  refine z_aload_n O dL_lostIn_0 rfl rfl ?_
  refine z_iload_n O dL_lostIn_1 rfl rfl ?_
  refine z_callXi (As := [.int x1]) (st := []) O (s_T_lostIn hfl h0 h) wy_X5_lostIn wl_RL_83 dL_lostIn_2 rfl rfl (T_obj h0) ⟨by decide, rfl⟩ ⟨(Nat.le_of_ble_eq_true rfl), (Nat.le_of_ble_eq_true rfl)⟩ (Nat.le_of_ble_eq_true rfl) ⟨(Nat.le_of_ble_eq_true rfl), (Nat.le_of_ble_eq_true rfl)⟩ (fun E z1 G1 hx => ?_) (fun r z1 G1 hq => ?_)
  · obtain ⟨w, k1, k2, hx⟩ := hx
    by_cases e0 : E = "java/lang/IndexOutOfBoundsException"
    · have hc := hx.1 e0
      subst e0
      refine z_catch [] ⟨0, 6, 7, 34⟩ [] O (hT.trans rfl) (fun z9 hz => absurd hz List.not_mem_nil) (by decide) (by decide) wk_RL_34 (by decide) (fun q9 => ?_)
      refine z_astore_n (L' := [some (.ref b0), some (.int x1), some (.ref q9)]) O dL_lostIn_7 rfl (by decide) rfl ?_
      refine z_ldc2 (v := (-9000000000000000001)) O wc_RL_36 dL_lostIn_8 ?_
      exact z_lret O hret hlk dL_lostIn_11 (Nat.le_of_ble_eq_true rfl) (Nat.le_of_ble_eq_true rfl) ⟨_, rfl, w, k1, k2, hc⟩
    · exact (hx.2 e0).elim
  · obtain ⟨rfl, w, k1, k2, h⟩ := hq
    refine z_i2l O dL_lostIn_5 ?_
    exact z_lret O hret hlk dL_lostIn_6 (Nat.le_of_ble_eq_true rfl) (Nat.le_of_ble_eq_true rfl) ⟨_, rfl, w, k1, k2, h⟩
theorem dL_ifFree_0 : decode cL_ifFree 0 = .ok (.aload_n 0, 1) := by decide +kernel
theorem dL_ifFree_1 : decode cL_ifFree 1 = .ok (.iload_n 1, 1) := by decide +kernel
theorem dL_ifFree_2 : decode cL_ifFree 2 = .ok (.invokevirtual 86, 3) := by decide +kernel
theorem dL_ifFree_5 : decode cL_ifFree 5 = .ok (.i2l, 1) := by decide +kernel
theorem dL_ifFree_6 : decode cL_ifFree 6 = .ok (.lreturn, 1) := by decide +kernel
theorem dL_ifFree_7 : decode cL_ifFree 7 = .ok (.astore_n 2, 1) := by decide +kernel
theorem dL_ifFree_8 : decode cL_ifFree 8 = .ok (.ldc2_w 36, 3) := by decide +kernel
theorem dL_ifFree_11 : decode cL_ifFree 11 = .ok (.lreturn, 1) := by decide +kernel
abbrev hL_ifFree : List (Nat × Nat × Nat × Nat) := [(0, 6, 7, 34)]
theorem wh_L_ifFree : zYh yL_ifFree cL_ifFree 3 (some .long) hL_ifFree 2 := ⟨(zgt_at 777 (by decide +kernel) (by decide +kernel)), (zgt_at 4 (by decide +kernel) (by decide +kernel)), by decide +kernel, by decide +kernel, by decide +kernel⟩
def P_LAW_ifFree (x1 : Int32) (v0 : TT) (Q : Int64 → TT → Prop) : Prop := P_T_ifFree x1 v0 (fun E v => (E = "java/lang/IndexOutOfBoundsException" → Q (-9000000000000000001) v) ∧ ((¬ E = "java/lang/IndexOutOfBoundsException") → False)) (fun r v => Q (Int32.toInt64 r) v)
set_option maxRecDepth 100000 in
theorem s_LAW_ifFree {l : Launch} {D : zD} {B : Nat} {sa : Nat → Nat} (hfl : l.stackTraces = false) {z : Nat} {G : zG} {b0 : Nat} {x1 : Int32} {v0 : TT} {Q : Int64 → TT → Prop} (h0 : TA b0 v0 G) (h : P_LAW_ifFree x1 v0 Q) : zSh l D B sa yL_ifFree cL_ifFree 3 (some .long) hL_ifFree 7 187 1 6 [.ref b0, .int x1] z G (zRl fun r z' G' => ∃ w, TA b0 w G' ∧ Fr b0 475 G G' ∧ Q r w) := by
  unfold P_LAW_ifFree at h
  refine z_ofH (by decide +kernel) hfl [some (.ref b0), some (.int x1), none] rfl (Nat.le_of_ble_eq_true rfl) (fun p e s m args below meth c O hT hret hlk => ?_)
  have O : zO p l s m args c D B sa 3 cL_ifFree RL := O
  refine z_aload_n O dL_ifFree_0 rfl rfl ?_
  refine z_iload_n O dL_ifFree_1 rfl rfl ?_
  refine z_callXi (As := [.int x1]) (st := []) O (s_T_ifFree hfl h0 h) wy_X5_ifFree wl_RL_86 dL_ifFree_2 rfl rfl (T_obj h0) ⟨by decide, rfl⟩ ⟨(Nat.le_of_ble_eq_true rfl), (Nat.le_of_ble_eq_true rfl)⟩ (Nat.le_of_ble_eq_true rfl) ⟨(Nat.le_of_ble_eq_true rfl), (Nat.le_of_ble_eq_true rfl)⟩ (fun E z1 G1 hx => ?_) (fun r z1 G1 hq => ?_)
  · obtain ⟨w, k1, k2, hx⟩ := hx
    by_cases e0 : E = "java/lang/IndexOutOfBoundsException"
    · have hc := hx.1 e0
      subst e0
      refine z_catch [] ⟨0, 6, 7, 34⟩ [] O (hT.trans rfl) (fun z9 hz => absurd hz List.not_mem_nil) (by decide) (by decide) wk_RL_34 (by decide) (fun q9 => ?_)
      refine z_astore_n (L' := [some (.ref b0), some (.int x1), some (.ref q9)]) O dL_ifFree_7 rfl (by decide) rfl ?_
      refine z_ldc2 (v := (-9000000000000000001)) O wc_RL_36 dL_ifFree_8 ?_
      exact z_lret O hret hlk dL_ifFree_11 (Nat.le_of_ble_eq_true rfl) (Nat.le_of_ble_eq_true rfl) ⟨_, rfl, w, k1, k2, hc⟩
    · exact (hx.2 e0).elim
  · obtain ⟨rfl, w, k1, k2, h⟩ := hq
    refine z_i2l O dL_ifFree_5 ?_
    exact z_lret O hret hlk dL_ifFree_6 (Nat.le_of_ble_eq_true rfl) (Nat.le_of_ble_eq_true rfl) ⟨_, rfl, w, k1, k2, h⟩
theorem dL_leastRoom_0 : decode cL_leastRoom 0 = .ok (.aload_n 0, 1) := by decide +kernel
theorem dL_leastRoom_1 : decode cL_leastRoom 1 = .ok (.iload_n 1, 1) := by decide +kernel
theorem dL_leastRoom_2 : decode cL_leastRoom 2 = .ok (.invokevirtual 89, 3) := by decide +kernel
theorem dL_leastRoom_5 : decode cL_leastRoom 5 = .ok (.i2l, 1) := by decide +kernel
theorem dL_leastRoom_6 : decode cL_leastRoom 6 = .ok (.lreturn, 1) := by decide +kernel
theorem dL_leastRoom_7 : decode cL_leastRoom 7 = .ok (.astore_n 2, 1) := by decide +kernel
theorem dL_leastRoom_8 : decode cL_leastRoom 8 = .ok (.ldc2_w 17, 3) := by decide +kernel
theorem dL_leastRoom_11 : decode cL_leastRoom 11 = .ok (.lreturn, 1) := by decide +kernel
abbrev hL_leastRoom : List (Nat × Nat × Nat × Nat) := [(0, 6, 7, 15)]
theorem wh_L_leastRoom : zYh yL_leastRoom cL_leastRoom 3 (some .long) hL_leastRoom 2 := ⟨(zgt_at 806 (by decide +kernel) (by decide +kernel)), (zgt_at 4 (by decide +kernel) (by decide +kernel)), by decide +kernel, by decide +kernel, by decide +kernel⟩
def P_LAW_leastRoom (x1 : Int32) (v0 : TT) (Q : Int64 → TT → Prop) : Prop := P_T_leastRoom x1 v0 (fun E v => (E = "java/lang/IllegalArgumentException" → Q (-9000000000000000002) v) ∧ ((¬ E = "java/lang/IllegalArgumentException") → False)) (fun r v => Q (Int32.toInt64 r) v)
set_option maxRecDepth 100000 in
theorem s_LAW_leastRoom {l : Launch} {D : zD} {B : Nat} {sa : Nat → Nat} (hfl : l.stackTraces = false) {z : Nat} {G : zG} {b0 : Nat} {x1 : Int32} {v0 : TT} {Q : Int64 → TT → Prop} (h0 : TA b0 v0 G) (h : P_LAW_leastRoom x1 v0 Q) : zSh l D B sa yL_leastRoom cL_leastRoom 3 (some .long) hL_leastRoom 8 210 1 6 [.ref b0, .int x1] z G (zRl fun r z' G' => ∃ w, TA b0 w G' ∧ Fr b0 475 G G' ∧ Q r w) := by
  unfold P_LAW_leastRoom at h
  refine z_ofH (by decide +kernel) hfl [some (.ref b0), some (.int x1), none] rfl (Nat.le_of_ble_eq_true rfl) (fun p e s m args below meth c O hT hret hlk => ?_)
  have O : zO p l s m args c D B sa 3 cL_leastRoom RL := O
  refine z_aload_n O dL_leastRoom_0 rfl rfl ?_
  refine z_iload_n O dL_leastRoom_1 rfl rfl ?_
  refine z_callXi (As := [.int x1]) (st := []) O (s_T_leastRoom hfl h0 h) wy_X5_leastRoom wl_RL_89 dL_leastRoom_2 rfl rfl (T_obj h0) ⟨by decide, rfl⟩ ⟨(Nat.le_of_ble_eq_true rfl), (Nat.le_of_ble_eq_true rfl)⟩ (Nat.le_of_ble_eq_true rfl) ⟨(Nat.le_of_ble_eq_true rfl), (Nat.le_of_ble_eq_true rfl)⟩ (fun E z1 G1 hx => ?_) (fun r z1 G1 hq => ?_)
  · obtain ⟨w, k1, k2, hx⟩ := hx
    by_cases e0 : E = "java/lang/IllegalArgumentException"
    · have hc := hx.1 e0
      subst e0
      refine z_catch [] ⟨0, 6, 7, 15⟩ [] O (hT.trans rfl) (fun z9 hz => absurd hz List.not_mem_nil) (by decide) (by decide) wk_RL_15 (by decide) (fun q9 => ?_)
      refine z_astore_n (L' := [some (.ref b0), some (.int x1), some (.ref q9)]) O dL_leastRoom_7 rfl (by decide) rfl ?_
      refine z_ldc2 (v := (-9000000000000000002)) O wc_RL_17 dL_leastRoom_8 ?_
      exact z_lret O hret hlk dL_leastRoom_11 (Nat.le_of_ble_eq_true rfl) (Nat.le_of_ble_eq_true rfl) ⟨_, rfl, w, k1, k2, hc⟩
    · exact (hx.2 e0).elim
  · obtain ⟨rfl, w, k1, k2, h⟩ := hq
    refine z_i2l O dL_leastRoom_5 ?_
    exact z_lret O hret hlk dL_leastRoom_6 (Nat.le_of_ble_eq_true rfl) (Nat.le_of_ble_eq_true rfl) ⟨_, rfl, w, k1, k2, h⟩
theorem dL_script_0 : decode cL_script 0 = .ok (.aload_n 0, 1) := by decide +kernel
theorem dL_script_1 : decode cL_script 1 = .ok (.iload_n 1, 1) := by decide +kernel
theorem dL_script_2 : decode cL_script 2 = .ok (.lload_n 2, 1) := by decide +kernel
theorem dL_script_3 : decode cL_script 3 = .ok (.invokevirtual 92, 3) := by decide +kernel
theorem dL_script_6 : decode cL_script 6 = .ok (.i2l, 1) := by decide +kernel
theorem dL_script_7 : decode cL_script 7 = .ok (.lreturn, 1) := by decide +kernel
theorem dL_script_8 : decode cL_script 8 = .ok (.astore 4, 2) := by decide +kernel
theorem dL_script_10 : decode cL_script 10 = .ok (.ldc2_w 17, 3) := by decide +kernel
theorem dL_script_13 : decode cL_script 13 = .ok (.lreturn, 1) := by decide +kernel
abbrev hL_script : List (Nat × Nat × Nat × Nat) := [(0, 7, 8, 15)]
theorem wh_L_script : zYh yL_script cL_script 5 (some .long) hL_script 3 := ⟨(zgt_at 818 (by decide +kernel) (by decide +kernel)), (zgt_at 4 (by decide +kernel) (by decide +kernel)), by decide +kernel, by decide +kernel, by decide +kernel⟩
def P_LAW_script (x1 : Int32) (x2 : Int64) (v0 : TT) (Q : Int64 → TT → Prop) : Prop := P_T_runScript x1 x2 v0 (fun E v => (E = "java/lang/IllegalArgumentException" → Q (-9000000000000000002) v) ∧ ((¬ E = "java/lang/IllegalArgumentException") → False)) (fun r v => Q (Int32.toInt64 r) v)
set_option maxRecDepth 100000 in
theorem s_LAW_script {l : Launch} {D : zD} {B : Nat} {sa : Nat → Nat} (hfl : l.stackTraces = false) {z : Nat} {G : zG} {b0 : Nat} {x1 : Int32} {x2 : Int64} {v0 : TT} {Q : Int64 → TT → Prop} (h0 : TA b0 v0 G) (h : P_LAW_script x1 x2 v0 Q) : zSh l D B sa yL_script cL_script 5 (some .long) hL_script 8 217 1 6 [.ref b0, .int x1, .long x2] z G (zRl fun r z' G' => ∃ w, TA b0 w G' ∧ Fr b0 475 G G' ∧ Q r w) := by
  unfold P_LAW_script at h
  refine z_ofH (by decide +kernel) hfl [some (.ref b0), some (.int x1), some (.long x2), none, none] rfl (Nat.le_of_ble_eq_true rfl) (fun p e s m args below meth c O hT hret hlk => ?_)
  have O : zO p l s m args c D B sa 5 cL_script RL := O
  refine z_aload_n O dL_script_0 rfl rfl ?_
  refine z_iload_n O dL_script_1 rfl rfl ?_
  refine z_lload_n O dL_script_2 rfl rfl ?_
  refine z_callXi (As := [.int x1, .long x2]) (st := []) O (s_T_runScript hfl h0 h) wy_X5_runScript wl_RL_92 dL_script_3 rfl rfl (T_obj h0) ⟨by decide, rfl⟩ ⟨(Nat.le_of_ble_eq_true rfl), (Nat.le_of_ble_eq_true rfl)⟩ (Nat.le_of_ble_eq_true rfl) ⟨(Nat.le_of_ble_eq_true rfl), (Nat.le_of_ble_eq_true rfl)⟩ (fun E z1 G1 hx => ?_) (fun r z1 G1 hq => ?_)
  · obtain ⟨w, k1, k2, hx⟩ := hx
    by_cases e0 : E = "java/lang/IllegalArgumentException"
    · have hc := hx.1 e0
      subst e0
      refine z_catch [] ⟨0, 7, 8, 15⟩ [] O (hT.trans rfl) (fun z9 hz => absurd hz List.not_mem_nil) (by decide) (by decide) wk_RL_15 (by decide) (fun q9 => ?_)
      refine z_astore (L' := [some (.ref b0), some (.int x1), some (.long x2), none, some (.ref q9)]) O dL_script_8 (by decide) rfl ?_
      refine z_ldc2 (v := (-9000000000000000002)) O wc_RL_17 dL_script_10 ?_
      exact z_lret O hret hlk dL_script_13 (Nat.le_of_ble_eq_true rfl) (Nat.le_of_ble_eq_true rfl) ⟨_, rfl, w, k1, k2, hc⟩
    · exact (hx.2 e0).elim
  · obtain ⟨rfl, w, k1, k2, h⟩ := hq
    refine z_i2l O dL_script_6 ?_
    exact z_lret O hret hlk dL_script_7 (Nat.le_of_ble_eq_true rfl) (Nat.le_of_ble_eq_true rfl) ⟨_, rfl, w, k1, k2, h⟩
theorem dL_simulate_0 : decode cL_simulate 0 = .ok (.aload_n 0, 1) := by decide +kernel
theorem dL_simulate_1 : decode cL_simulate 1 = .ok (.lload_n 1, 1) := by decide +kernel
theorem dL_simulate_2 : decode cL_simulate 2 = .ok (.iload_n 3, 1) := by decide +kernel
theorem dL_simulate_3 : decode cL_simulate 3 = .ok (.invokevirtual 96, 3) := by decide +kernel
theorem dL_simulate_6 : decode cL_simulate 6 = .ok (.i2l, 1) := by decide +kernel
theorem dL_simulate_7 : decode cL_simulate 7 = .ok (.lreturn, 1) := by decide +kernel
theorem dL_simulate_8 : decode cL_simulate 8 = .ok (.astore 4, 2) := by decide +kernel
theorem dL_simulate_10 : decode cL_simulate 10 = .ok (.ldc2_w 17, 3) := by decide +kernel
theorem dL_simulate_13 : decode cL_simulate 13 = .ok (.lreturn, 1) := by decide +kernel
abbrev hL_simulate : List (Nat × Nat × Nat × Nat) := [(0, 7, 8, 15)]
theorem wh_L_simulate : zYh yL_simulate cL_simulate 5 (some .long) hL_simulate 3 := ⟨(zgt_at 844 (by decide +kernel) (by decide +kernel)), (zgt_at 4 (by decide +kernel) (by decide +kernel)), by decide +kernel, by decide +kernel, by decide +kernel⟩
def P_LAW_simulate (x1 : Int64) (x2 : Int32) (v0 : TT) (Q : Int64 → TT → Prop) : Prop := P_T_simulate x1 x2 v0 (fun E v => (E = "java/lang/IllegalArgumentException" → Q (-9000000000000000002) v) ∧ ((¬ E = "java/lang/IllegalArgumentException") → False)) (fun r v => Q (Int32.toInt64 r) v)
set_option maxRecDepth 100000 in
theorem s_LAW_simulate {l : Launch} {D : zD} {B : Nat} {sa : Nat → Nat} (hfl : l.stackTraces = false) {z : Nat} {G : zG} {b0 : Nat} {x1 : Int64} {x2 : Int32} {v0 : TT} {Q : Int64 → TT → Prop} (h0 : TA b0 v0 G) (h : P_LAW_simulate x1 x2 v0 Q) : zSh l D B sa yL_simulate cL_simulate 5 (some .long) hL_simulate 8 216 1 6 [.ref b0, .long x1, .int x2] z G (zRl fun r z' G' => ∃ w, TA b0 w G' ∧ Fr b0 475 G G' ∧ Q r w) := by
  unfold P_LAW_simulate at h
  refine z_ofH (by decide +kernel) hfl [some (.ref b0), some (.long x1), none, some (.int x2), none] rfl (Nat.le_of_ble_eq_true rfl) (fun p e s m args below meth c O hT hret hlk => ?_)
  have O : zO p l s m args c D B sa 5 cL_simulate RL := O
  refine z_aload_n O dL_simulate_0 rfl rfl ?_
  refine z_lload_n O dL_simulate_1 rfl rfl ?_
  refine z_iload_n O dL_simulate_2 rfl rfl ?_
  refine z_callXi (As := [.long x1, .int x2]) (st := []) O (s_T_simulate hfl h0 h) wy_X5_simulate wl_RL_96 dL_simulate_3 rfl rfl (T_obj h0) ⟨by decide, rfl⟩ ⟨(Nat.le_of_ble_eq_true rfl), (Nat.le_of_ble_eq_true rfl)⟩ (Nat.le_of_ble_eq_true rfl) ⟨(Nat.le_of_ble_eq_true rfl), (Nat.le_of_ble_eq_true rfl)⟩ (fun E z1 G1 hx => ?_) (fun r z1 G1 hq => ?_)
  · obtain ⟨w, k1, k2, hx⟩ := hx
    by_cases e0 : E = "java/lang/IllegalArgumentException"
    · have hc := hx.1 e0
      subst e0
      refine z_catch [] ⟨0, 7, 8, 15⟩ [] O (hT.trans rfl) (fun z9 hz => absurd hz List.not_mem_nil) (by decide) (by decide) wk_RL_15 (by decide) (fun q9 => ?_)
      refine z_astore (L' := [some (.ref b0), some (.long x1), none, some (.int x2), some (.ref q9)]) O dL_simulate_8 (by decide) rfl ?_
      refine z_ldc2 (v := (-9000000000000000002)) O wc_RL_17 dL_simulate_10 ?_
      exact z_lret O hret hlk dL_simulate_13 (Nat.le_of_ble_eq_true rfl) (Nat.le_of_ble_eq_true rfl) ⟨_, rfl, w, k1, k2, hc⟩
    · exact (hx.2 e0).elim
  · obtain ⟨rfl, w, k1, k2, h⟩ := hq
    refine z_i2l O dL_simulate_6 ?_
    exact z_lret O hret hlk dL_simulate_7 (Nat.le_of_ble_eq_true rfl) (Nat.le_of_ble_eq_true rfl) ⟨_, rfl, w, k1, k2, h⟩
theorem dL_save_0 : decode cL_save 0 = .ok (.aload_n 0, 1) := by decide +kernel
theorem dL_save_1 : decode cL_save 1 = .ok (.iload_n 1, 1) := by decide +kernel
theorem dL_save_2 : decode cL_save 2 = .ok (.invokevirtual 100, 3) := by decide +kernel
theorem dL_save_5 : decode cL_save 5 = .ok (.i2l, 1) := by decide +kernel
theorem dL_save_6 : decode cL_save 6 = .ok (.lreturn, 1) := by decide +kernel
theorem dL_save_7 : decode cL_save 7 = .ok (.astore_n 2, 1) := by decide +kernel
theorem dL_save_8 : decode cL_save 8 = .ok (.ldc2_w 36, 3) := by decide +kernel
theorem dL_save_11 : decode cL_save 11 = .ok (.lreturn, 1) := by decide +kernel
abbrev hL_save : List (Nat × Nat × Nat × Nat) := [(0, 6, 7, 34)]
theorem wh_L_save : zYh yL_save cL_save 3 (some .long) hL_save 2 := ⟨(zgt_at 531 (by decide +kernel) (by decide +kernel)), (zgt_at 4 (by decide +kernel) (by decide +kernel)), by decide +kernel, by decide +kernel, by decide +kernel⟩
def P_LAW_save (x1 : Int32) (v0 : TT) (Q : Int64 → TT → Prop) : Prop := P_T_save x1 v0 (fun E v => (E = "java/lang/IndexOutOfBoundsException" → Q (-9000000000000000001) v) ∧ ((¬ E = "java/lang/IndexOutOfBoundsException") → False)) (fun r v => Q (Int32.toInt64 r) v)
set_option maxRecDepth 100000 in
theorem s_LAW_save {l : Launch} {D : zD} {B : Nat} {sa : Nat → Nat} (hfl : l.stackTraces = false) {z : Nat} {G : zG} {b0 : Nat} {x1 : Int32} {v0 : TT} {Q : Int64 → TT → Prop} (h0 : TA b0 v0 G) (h : P_LAW_save x1 v0 Q) : zSh l D B sa yL_save cL_save 3 (some .long) hL_save 7 140 1 6 [.ref b0, .int x1] z G (zRl fun r z' G' => ∃ w, TA b0 w G' ∧ Fr b0 475 G G' ∧ Q r w) := by
  unfold P_LAW_save at h
  refine z_ofH (by decide +kernel) hfl [some (.ref b0), some (.int x1), none] rfl (Nat.le_of_ble_eq_true rfl) (fun p e s m args below meth c O hT hret hlk => ?_)
  have O : zO p l s m args c D B sa 3 cL_save RL := O
  refine z_aload_n O dL_save_0 rfl rfl ?_
  refine z_iload_n O dL_save_1 rfl rfl ?_
  refine z_callXi (As := [.int x1]) (st := []) O (s_T_save hfl h0 h) wy_X5_save wl_RL_100 dL_save_2 rfl rfl (T_obj h0) ⟨by decide, rfl⟩ ⟨(Nat.le_of_ble_eq_true rfl), (Nat.le_of_ble_eq_true rfl)⟩ (Nat.le_of_ble_eq_true rfl) ⟨(Nat.le_of_ble_eq_true rfl), (Nat.le_of_ble_eq_true rfl)⟩ (fun E z1 G1 hx => ?_) (fun r z1 G1 hq => ?_)
  · obtain ⟨w, k1, k2, hx⟩ := hx
    by_cases e0 : E = "java/lang/IndexOutOfBoundsException"
    · have hc := hx.1 e0
      subst e0
      refine z_catch [] ⟨0, 6, 7, 34⟩ [] O (hT.trans rfl) (fun z9 hz => absurd hz List.not_mem_nil) (by decide) (by decide) wk_RL_34 (by decide) (fun q9 => ?_)
      refine z_astore_n (L' := [some (.ref b0), some (.int x1), some (.ref q9)]) O dL_save_7 rfl (by decide) rfl ?_
      refine z_ldc2 (v := (-9000000000000000001)) O wc_RL_36 dL_save_8 ?_
      exact z_lret O hret hlk dL_save_11 (Nat.le_of_ble_eq_true rfl) (Nat.le_of_ble_eq_true rfl) ⟨_, rfl, w, k1, k2, hc⟩
    · exact (hx.2 e0).elim
  · obtain ⟨rfl, w, k1, k2, h⟩ := hq
    refine z_i2l O dL_save_5 ?_
    exact z_lret O hret hlk dL_save_6 (Nat.le_of_ble_eq_true rfl) (Nat.le_of_ble_eq_true rfl) ⟨_, rfl, w, k1, k2, h⟩
theorem dL_restore_0 : decode cL_restore 0 = .ok (.aload_n 0, 1) := by decide +kernel
theorem dL_restore_1 : decode cL_restore 1 = .ok (.iload_n 1, 1) := by decide +kernel
theorem dL_restore_2 : decode cL_restore 2 = .ok (.invokevirtual 103, 3) := by decide +kernel
theorem dL_restore_5 : decode cL_restore 5 = .ok (.i2l, 1) := by decide +kernel
theorem dL_restore_6 : decode cL_restore 6 = .ok (.lreturn, 1) := by decide +kernel
theorem dL_restore_7 : decode cL_restore 7 = .ok (.astore_n 2, 1) := by decide +kernel
theorem dL_restore_8 : decode cL_restore 8 = .ok (.ldc2_w 36, 3) := by decide +kernel
theorem dL_restore_11 : decode cL_restore 11 = .ok (.lreturn, 1) := by decide +kernel
theorem dL_restore_12 : decode cL_restore 12 = .ok (.astore_n 2, 1) := by decide +kernel
theorem dL_restore_13 : decode cL_restore 13 = .ok (.ldc2_w 21, 3) := by decide +kernel
theorem dL_restore_16 : decode cL_restore 16 = .ok (.lreturn, 1) := by decide +kernel
abbrev hL_restore : List (Nat × Nat × Nat × Nat) := [(0, 6, 7, 34), (0, 6, 12, 19)]
theorem wh_L_restore : zYh yL_restore cL_restore 3 (some .long) hL_restore 2 := ⟨(zgt_at 571 (by decide +kernel) (by decide +kernel)), (zgt_at 4 (by decide +kernel) (by decide +kernel)), by decide +kernel, by decide +kernel, by decide +kernel⟩
def P_LAW_restore (x1 : Int32) (v0 : TT) (Q : Int64 → TT → Prop) : Prop := P_T_restore x1 v0 (fun E v => (E = "java/lang/IndexOutOfBoundsException" → Q (-9000000000000000001) v) ∧ (E = "java/lang/IllegalStateException" → Q (-9000000000000000003) v) ∧ ((¬ E = "java/lang/IndexOutOfBoundsException" ∧ ¬ E = "java/lang/IllegalStateException") → False)) (fun r v => Q (Int32.toInt64 r) v)
set_option maxRecDepth 100000 in
theorem s_LAW_restore {l : Launch} {D : zD} {B : Nat} {sa : Nat → Nat} (hfl : l.stackTraces = false) {z : Nat} {G : zG} {b0 : Nat} {x1 : Int32} {v0 : TT} {Q : Int64 → TT → Prop} (h0 : TA b0 v0 G) (h : P_LAW_restore x1 v0 Q) : zSh l D B sa yL_restore cL_restore 3 (some .long) hL_restore 7 139 1 6 [.ref b0, .int x1] z G (zRl fun r z' G' => ∃ w, TA b0 w G' ∧ Fr b0 475 G G' ∧ Q r w) := by
  unfold P_LAW_restore at h
  refine z_ofH (by decide +kernel) hfl [some (.ref b0), some (.int x1), none] rfl (Nat.le_of_ble_eq_true rfl) (fun p e s m args below meth c O hT hret hlk => ?_)
  have O : zO p l s m args c D B sa 3 cL_restore RL := O
  refine z_aload_n O dL_restore_0 rfl rfl ?_
  refine z_iload_n O dL_restore_1 rfl rfl ?_
  refine z_callXi (As := [.int x1]) (st := []) O (s_T_restore hfl h0 h) wy_X5_restore wl_RL_103 dL_restore_2 rfl rfl (T_obj h0) ⟨by decide, rfl⟩ ⟨(Nat.le_of_ble_eq_true rfl), (Nat.le_of_ble_eq_true rfl)⟩ (Nat.le_of_ble_eq_true rfl) ⟨(Nat.le_of_ble_eq_true rfl), (Nat.le_of_ble_eq_true rfl)⟩ (fun E z1 G1 hx => ?_) (fun r z1 G1 hq => ?_)
  · obtain ⟨w, k1, k2, hx⟩ := hx
    by_cases e0 : E = "java/lang/IndexOutOfBoundsException"
    · have hc := hx.1 e0
      subst e0
      refine z_catch [] ⟨0, 6, 7, 34⟩ [⟨0, 6, 12, 19⟩] O (hT.trans rfl) (fun z9 hz => absurd hz List.not_mem_nil) (by decide) (by decide) wk_RL_34 (by decide) (fun q9 => ?_)
      refine z_astore_n (L' := [some (.ref b0), some (.int x1), some (.ref q9)]) O dL_restore_7 rfl (by decide) rfl ?_
      refine z_ldc2 (v := (-9000000000000000001)) O wc_RL_36 dL_restore_8 ?_
      exact z_lret O hret hlk dL_restore_11 (Nat.le_of_ble_eq_true rfl) (Nat.le_of_ble_eq_true rfl) ⟨_, rfl, w, k1, k2, hc⟩
    · skip
      by_cases e1 : E = "java/lang/IllegalStateException"
      · have hc := hx.2.1 e1
        subst e1
        refine z_catch [⟨0, 6, 7, 34⟩] ⟨0, 6, 12, 19⟩ [] O (hT.trans rfl) (fun z9 hz => by cases List.mem_singleton.mp hz; exact Or.inr ⟨by decide, _, wk_RL_34, by decide⟩) (by decide) (by decide) wk_RL_19 (by decide) (fun q9 => ?_)
        refine z_astore_n (L' := [some (.ref b0), some (.int x1), some (.ref q9)]) O dL_restore_12 rfl (by decide) rfl ?_
        refine z_ldc2 (v := (-9000000000000000003)) O wc_RL_21 dL_restore_13 ?_
        exact z_lret O hret hlk dL_restore_16 (Nat.le_of_ble_eq_true rfl) (Nat.le_of_ble_eq_true rfl) ⟨_, rfl, w, k1, k2, hc⟩
      · exact (hx.2.2 ⟨e0, e1⟩).elim
  · obtain ⟨rfl, w, k1, k2, h⟩ := hq
    refine z_i2l O dL_restore_5 ?_
    exact z_lret O hret hlk dL_restore_6 (Nat.le_of_ble_eq_true rfl) (Nat.le_of_ble_eq_true rfl) ⟨_, rfl, w, k1, k2, h⟩

theorem wy_X5_append : zYw yX5_append cX5_append 2 (some .int) 1 := ⟨(zgt_at 433 (by decide +kernel) (by decide +kernel)), (zgt_at 29 (by decide +kernel) (by decide +kernel)), by decide +kernel, by decide +kernel, by decide +kernel⟩
theorem wl_RL_7 : zLv RL 7 yX5_append := ⟨(zgt_at 430 (by decide +kernel) (by decide +kernel)), (zgt_at 431 (by decide +kernel) (by decide +kernel)), (zgt_at 432 (by decide +kernel) (by decide +kernel))⟩
theorem wy_X5_load : zYw yX5_load cX5_load 2 (some .int) 0 := ⟨(zgt_at 535 (by decide +kernel) (by decide +kernel)), (zgt_at 29 (by decide +kernel) (by decide +kernel)), by decide +kernel, by decide +kernel, by decide +kernel⟩
theorem wl_RL_17 : zLv RL 17 yX5_load := ⟨(zgt_at 532 (by decide +kernel) (by decide +kernel)), (zgt_at 533 (by decide +kernel) (by decide +kernel)), (zgt_at 534 (by decide +kernel) (by decide +kernel))⟩
theorem wy_X5_about : zYw yX5_about cX5_about 2 (some .int) 1 := ⟨(zgt_at 636 (by decide +kernel) (by decide +kernel)), (zgt_at 29 (by decide +kernel) (by decide +kernel)), by decide +kernel, by decide +kernel, by decide +kernel⟩
theorem wl_RL_21 : zLv RL 21 yX5_about := ⟨(zgt_at 633 (by decide +kernel) (by decide +kernel)), (zgt_at 634 (by decide +kernel) (by decide +kernel)), (zgt_at 635 (by decide +kernel) (by decide +kernel))⟩
theorem wy_X5_rowOf : zYw yX5_rowOf cX5_rowOf 3 (some .int) 2 := ⟨(zgt_at 653 (by decide +kernel) (by decide +kernel)), (zgt_at 29 (by decide +kernel) (by decide +kernel)), by decide +kernel, by decide +kernel, by decide +kernel⟩
theorem wl_RL_24 : zLv RL 24 yX5_rowOf := ⟨(zgt_at 650 (by decide +kernel) (by decide +kernel)), (zgt_at 651 (by decide +kernel) (by decide +kernel)), (zgt_at 652 (by decide +kernel) (by decide +kernel))⟩
theorem wy_X5_segmentOf : zYw yX5_segmentOf cX5_segmentOf 3 (some .int) 2 := ⟨(zgt_at 691 (by decide +kernel) (by decide +kernel)), (zgt_at 29 (by decide +kernel) (by decide +kernel)), by decide +kernel, by decide +kernel, by decide +kernel⟩
theorem wl_RL_30 : zLv RL 30 yX5_segmentOf := ⟨(zgt_at 688 (by decide +kernel) (by decide +kernel)), (zgt_at 689 (by decide +kernel) (by decide +kernel)), (zgt_at 690 (by decide +kernel) (by decide +kernel))⟩
theorem wy_X5_readerOf : zYw yX5_readerOf cX5_readerOf 4 (some .int) 2 := ⟨(zgt_at 706 (by decide +kernel) (by decide +kernel)), (zgt_at 29 (by decide +kernel) (by decide +kernel)), by decide +kernel, by decide +kernel, by decide +kernel⟩
theorem wl_RL_33 : zLv RL 33 yX5_readerOf := ⟨(zgt_at 703 (by decide +kernel) (by decide +kernel)), (zgt_at 704 (by decide +kernel) (by decide +kernel)), (zgt_at 705 (by decide +kernel) (by decide +kernel))⟩
theorem wy_X5_table : zYw yX5_table cX5_table 4 (some .int) 2 := ⟨(zgt_at 723 (by decide +kernel) (by decide +kernel)), (zgt_at 29 (by decide +kernel) (by decide +kernel)), by decide +kernel, by decide +kernel, by decide +kernel⟩
theorem wl_RL_36 : zLv RL 36 yX5_table := ⟨(zgt_at 720 (by decide +kernel) (by decide +kernel)), (zgt_at 721 (by decide +kernel) (by decide +kernel)), (zgt_at 722 (by decide +kernel) (by decide +kernel))⟩
theorem wy_X5_base : zYw yX5_base cX5_base 2 (some .int) 1 := ⟨(zgt_at 732 (by decide +kernel) (by decide +kernel)), (zgt_at 29 (by decide +kernel) (by decide +kernel)), by decide +kernel, by decide +kernel, by decide +kernel⟩
theorem wl_RL_39 : zLv RL 39 yX5_base := ⟨(zgt_at 729 (by decide +kernel) (by decide +kernel)), (zgt_at 730 (by decide +kernel) (by decide +kernel)), (zgt_at 731 (by decide +kernel) (by decide +kernel))⟩
theorem wy_X5_setting : zYw yX5_setting cX5_setting 2 (some .int) 1 := ⟨(zgt_at 739 (by decide +kernel) (by decide +kernel)), (zgt_at 29 (by decide +kernel) (by decide +kernel)), by decide +kernel, by decide +kernel, by decide +kernel⟩
theorem wl_RL_42 : zLv RL 42 yX5_setting := ⟨(zgt_at 736 (by decide +kernel) (by decide +kernel)), (zgt_at 737 (by decide +kernel) (by decide +kernel)), (zgt_at 738 (by decide +kernel) (by decide +kernel))⟩
theorem wy_X5_write : zYw yX5_write cX5_write 4 (some .int) 3 := ⟨(zgt_at 746 (by decide +kernel) (by decide +kernel)), (zgt_at 29 (by decide +kernel) (by decide +kernel)), by decide +kernel, by decide +kernel, by decide +kernel⟩
theorem wl_RL_45 : zLv RL 45 yX5_write := ⟨(zgt_at 743 (by decide +kernel) (by decide +kernel)), (zgt_at 744 (by decide +kernel) (by decide +kernel)), (zgt_at 745 (by decide +kernel) (by decide +kernel))⟩
theorem wy_X5_join : zYw yX5_join cX5_join 4 (some .int) 3 := ⟨(zgt_at 771 (by decide +kernel) (by decide +kernel)), (zgt_at 29 (by decide +kernel) (by decide +kernel)), by decide +kernel, by decide +kernel, by decide +kernel⟩
theorem wl_RL_49 : zLv RL 49 yX5_join := ⟨(zgt_at 768 (by decide +kernel) (by decide +kernel)), (zgt_at 769 (by decide +kernel) (by decide +kernel)), (zgt_at 770 (by decide +kernel) (by decide +kernel))⟩
theorem wy_X5_read : zYw yX5_read cX5_read 3 (some .int) 2 := ⟨(zgt_at 779 (by decide +kernel) (by decide +kernel)), (zgt_at 29 (by decide +kernel) (by decide +kernel)), by decide +kernel, by decide +kernel, by decide +kernel⟩
theorem wl_RL_53 : zLv RL 53 yX5_read := ⟨(zgt_at 776 (by decide +kernel) (by decide +kernel)), (zgt_at 777 (by decide +kernel) (by decide +kernel)), (zgt_at 778 (by decide +kernel) (by decide +kernel))⟩
theorem wy_X5_leave : zYw yX5_leave cX5_leave 2 (some .int) 1 := ⟨(zgt_at 786 (by decide +kernel) (by decide +kernel)), (zgt_at 29 (by decide +kernel) (by decide +kernel)), by decide +kernel, by decide +kernel, by decide +kernel⟩
theorem wl_RL_56 : zLv RL 56 yX5_leave := ⟨(zgt_at 783 (by decide +kernel) (by decide +kernel)), (zgt_at 784 (by decide +kernel) (by decide +kernel)), (zgt_at 785 (by decide +kernel) (by decide +kernel))⟩
theorem wy_X5_hold : zYw yX5_hold cX5_hold 3 (some .int) 2 := ⟨(zgt_at 793 (by decide +kernel) (by decide +kernel)), (zgt_at 29 (by decide +kernel) (by decide +kernel)), by decide +kernel, by decide +kernel, by decide +kernel⟩
theorem wl_RL_59 : zLv RL 59 yX5_hold := ⟨(zgt_at 790 (by decide +kernel) (by decide +kernel)), (zgt_at 791 (by decide +kernel) (by decide +kernel)), (zgt_at 792 (by decide +kernel) (by decide +kernel))⟩
theorem wy_X5_set : zYw yX5_set cX5_set 3 (some .int) 2 := ⟨(zgt_at 800 (by decide +kernel) (by decide +kernel)), (zgt_at 29 (by decide +kernel) (by decide +kernel)), by decide +kernel, by decide +kernel, by decide +kernel⟩
theorem wl_RL_63 : zLv RL 63 yX5_set := ⟨(zgt_at 797 (by decide +kernel) (by decide +kernel)), (zgt_at 798 (by decide +kernel) (by decide +kernel)), (zgt_at 799 (by decide +kernel) (by decide +kernel))⟩
theorem wy_X5_ticks : zYw yX5_ticks cX5_ticks 2 (some .int) 1 := ⟨(zgt_at 807 (by decide +kernel) (by decide +kernel)), (zgt_at 29 (by decide +kernel) (by decide +kernel)), by decide +kernel, by decide +kernel, by decide +kernel⟩
theorem wl_RL_66 : zLv RL 66 yX5_ticks := ⟨(zgt_at 804 (by decide +kernel) (by decide +kernel)), (zgt_at 805 (by decide +kernel) (by decide +kernel)), (zgt_at 806 (by decide +kernel) (by decide +kernel))⟩
theorem wy_X5_undo : zYw yX5_undo cX5_undo 1 (some .int) 0 := ⟨(zgt_at 814 (by decide +kernel) (by decide +kernel)), (zgt_at 29 (by decide +kernel) (by decide +kernel)), by decide +kernel, by decide +kernel, by decide +kernel⟩
theorem wl_RL_69 : zLv RL 69 yX5_undo := ⟨(zgt_at 811 (by decide +kernel) (by decide +kernel)), (zgt_at 812 (by decide +kernel) (by decide +kernel)), (zgt_at 813 (by decide +kernel) (by decide +kernel))⟩
theorem wy_X5_truth : zYw yX5_truth cX5_truth 4 (some .int) 3 := ⟨(zgt_at 826 (by decide +kernel) (by decide +kernel)), (zgt_at 29 (by decide +kernel) (by decide +kernel)), by decide +kernel, by decide +kernel, by decide +kernel⟩
theorem wl_RL_72 : zLv RL 72 yX5_truth := ⟨(zgt_at 823 (by decide +kernel) (by decide +kernel)), (zgt_at 824 (by decide +kernel) (by decide +kernel)), (zgt_at 825 (by decide +kernel) (by decide +kernel))⟩
theorem wy_X5_lostIn : zYw yX5_lostIn cX5_lostIn 4 (some .int) 1 := ⟨(zgt_at 840 (by decide +kernel) (by decide +kernel)), (zgt_at 29 (by decide +kernel) (by decide +kernel)), by decide +kernel, by decide +kernel, by decide +kernel⟩
theorem wl_RL_75 : zLv RL 75 yX5_lostIn := ⟨(zgt_at 837 (by decide +kernel) (by decide +kernel)), (zgt_at 838 (by decide +kernel) (by decide +kernel)), (zgt_at 839 (by decide +kernel) (by decide +kernel))⟩
theorem wy_X5_ifFree : zYw yX5_ifFree cX5_ifFree 3 (some .int) 1 := ⟨(zgt_at 851 (by decide +kernel) (by decide +kernel)), (zgt_at 29 (by decide +kernel) (by decide +kernel)), by decide +kernel, by decide +kernel, by decide +kernel⟩
theorem wl_RL_78 : zLv RL 78 yX5_ifFree := ⟨(zgt_at 848 (by decide +kernel) (by decide +kernel)), (zgt_at 849 (by decide +kernel) (by decide +kernel)), (zgt_at 850 (by decide +kernel) (by decide +kernel))⟩
theorem wy_X5_leastRoom : zYw yX5_leastRoom cX5_leastRoom 3 (some .int) 1 := ⟨(zgt_at 859 (by decide +kernel) (by decide +kernel)), (zgt_at 29 (by decide +kernel) (by decide +kernel)), by decide +kernel, by decide +kernel, by decide +kernel⟩
theorem wl_RL_81 : zLv RL 81 yX5_leastRoom := ⟨(zgt_at 856 (by decide +kernel) (by decide +kernel)), (zgt_at 857 (by decide +kernel) (by decide +kernel)), (zgt_at 858 (by decide +kernel) (by decide +kernel))⟩
theorem wy_X5_runScript : zYw yX5_runScript cX5_runScript 7 (some .int) 2 := ⟨(zgt_at 871 (by decide +kernel) (by decide +kernel)), (zgt_at 29 (by decide +kernel) (by decide +kernel)), by decide +kernel, by decide +kernel, by decide +kernel⟩
theorem wl_RL_84 : zLv RL 84 yX5_runScript := ⟨(zgt_at 868 (by decide +kernel) (by decide +kernel)), (zgt_at 869 (by decide +kernel) (by decide +kernel)), (zgt_at 870 (by decide +kernel) (by decide +kernel))⟩
theorem wy_X5_simulate : zYw yX5_simulate cX5_simulate 9 (some .int) 2 := ⟨(zgt_at 896 (by decide +kernel) (by decide +kernel)), (zgt_at 29 (by decide +kernel) (by decide +kernel)), by decide +kernel, by decide +kernel, by decide +kernel⟩
theorem wl_RL_88 : zLv RL 88 yX5_simulate := ⟨(zgt_at 893 (by decide +kernel) (by decide +kernel)), (zgt_at 894 (by decide +kernel) (by decide +kernel)), (zgt_at 895 (by decide +kernel) (by decide +kernel))⟩
theorem wy_X5_save : zYw yX5_save cX5_save 3 (some .int) 1 := ⟨(zgt_at 910 (by decide +kernel) (by decide +kernel)), (zgt_at 29 (by decide +kernel) (by decide +kernel)), by decide +kernel, by decide +kernel, by decide +kernel⟩
theorem wl_RL_92 : zLv RL 92 yX5_save := ⟨(zgt_at 907 (by decide +kernel) (by decide +kernel)), (zgt_at 908 (by decide +kernel) (by decide +kernel)), (zgt_at 909 (by decide +kernel) (by decide +kernel))⟩
theorem wy_X5_restore : zYw yX5_restore cX5_restore 2 (some .int) 1 := ⟨(zgt_at 918 (by decide +kernel) (by decide +kernel)), (zgt_at 29 (by decide +kernel) (by decide +kernel)), by decide +kernel, by decide +kernel, by decide +kernel⟩
theorem wl_RL_95 : zLv RL 95 yX5_restore := ⟨(zgt_at 915 (by decide +kernel) (by decide +kernel)), (zgt_at 916 (by decide +kernel) (by decide +kernel)), (zgt_at 917 (by decide +kernel) (by decide +kernel))⟩
section ZLW
variable {p : Program} {l : Launch} {e : Env} {R : Room} {s : State} {m : MethodId} {args : Array Value} {below : List Frame} {meth : Method} {c : Code} {Q : State → Prop} {D : zD} {B nL : Nat} {sa : Nat → Nat} {cc : ByteArray} {own : String} {k n pc z : Nat} {st : List Value} {L : zL} {G : zG}
def zwsh (y : MethodName) (cy : ByteArray) (maxL : Nat) (ret : Option FieldType) (hh : List (Nat × Nat × Nat × Nat)) : List Cond := Cond.codeWith y cy maxL ret hh :: zgt
/-- a contract of a method with an exception table -/
def zSh (l : Launch) (D : zD) (B : Nat) (sa : Nat → Nat) (y : MethodName) (cy : ByteArray) (maxL : Nat) (ret : Option FieldType) (hh : List (Nat × Nat × Nat × Nat)) (fr lo mc ms : Nat) (av : List Value) (z : Nat) (G : zG) (Po : Option Value → Nat → zG → Prop) : Prop :=
  Met l y (zwsh y cy maxL ret hh) (zrm fr lo mc ms) (zPc D B sa z G av) (zQ D B Po) mc ms (zA B)
def zYh (y : MethodName) (cy : ByteArray) (maxL : Nat) (ret : Option FieldType) (hh : List (Nat × Nat × Nat × Nat)) (np : Nat) : Prop := Cond.codeWith y cy maxL ret hh ∈ zgt ∧ Cond.initialized y.cls ∈ zgt ∧ (y.cls ≠ "java/lang/invoke/MethodHandle" ∧ y.cls ≠ "java/lang/invoke/VarHandle" ∧ (parseMethodDescriptor y.desc).map (fun d => d.parameters.length) = some np)
theorem z_ofH {y : MethodName} {cy : ByteArray} {maxL fr lo mc ms : Nat} {ret : Option FieldType} {hh : List (Nat × Nat × Nat × Nat)} {av : List Value} {Po : Option Value → Nat → zG → Prop} (hy : plainName y.cls = true) (hfl : l.stackTraces = false) (L0 : zL) (hL0 : zp L0 0 = lv_args 0 av) (hlen : (lg_sl av).length ≤ maxL)
    (body : ∀ (p : Program) (e : Env) (s : State) (m : MethodId) (args : Array Value) (below : List Frame) (meth : Method) (c : Code), zO p l s m args c D B sa maxL cy y.cls → c.exceptionTable.toList = tableOf hh → meth.sig.returnType = ret → meth.locks = false → zT p l e (zrm fr lo mc ms) s m args below meth c (zEnd below D B Po args s mc ms) D B maxL 0 0 0 [] L0 z G) : zSh l D B sa y cy maxL ret hh fr lo mc ms av z G Po := by
  unfold zSh Met
  refine MetFree.of_bodyS (code := cy) (maxLocals := maxL) (ret := ret) hy ?_ ?_
  · intro args s m h hn
    obtain ⟨m9, meth, c, hn9, h1, h2, h3, h4, -, h5, h6, -⟩ := Cond.codeWith_spec (atoms_spec (ws := zwsh y cy maxL ret hh) h _ List.mem_cons_self)
    cases hn.symm.trans hn9
    exact ⟨meth, c, h1, h2, h3, h4, h5, h6⟩
  · intro p e s m args below meth c s₁ Bd hml hv _
    have hh0 : s₁.heap = s.heap := by rw [Bd.state]; rfl
    obtain ⟨rfl, hR, hW, hB⟩ := hv
    have hts := atoms_spec (ws := zwsh y cy maxL ret hh) Bd.pre
    have hl := lv_entry av (n := maxL) hlen
    have K : W p l e (zrm fr lo mc ms) s m av.toArray below meth c s.heap [] 0 0 (zEnd below D B Po av.toArray s mc ms) (entryFrame m av.toArray maxL) := by
      rw [lg_entry_eq]
      generalize (lg_sl av ++ List.replicate (maxL - (lg_sl av).length) Slot.unset).toArray = ls at hl ⊢
      rw [← hL0] at hl
      exact body p e s m _ below meth c ⟨Bd.exec, Bd.bytes, hml, findClass_of_methodNamed Bd.named, fun w hw => hts w (List.mem_cons_of_mem _ hw), hW, hB, hfl⟩ (vx_table (x := y) Bd (hts _ List.mem_cons_self)) Bd.returns Bd.notSynchronized s.heap [] ls hR va_S.rf hl
    obtain ⟨t, a1, o, b1, b2, b3⟩ := K s₁ hh0 (Stand.of_body Bd)
    exact ⟨t, o, a1, b1, b2, ⟨b3.1, b3.2⟩⟩
theorem z_callHi {idx maxL fr lo mc ms np : Nat} {y : MethodName} {cy : ByteArray} {ret : Option FieldType} {hh : List (Nat × Nat × Nat × Nat)} {As st0 : List Value} {S : Int32 → Nat → zG → Prop} (O : zO p l s m args c D B sa nL cc own) (hM : zSh l D B sa y cy maxL ret hh fr lo mc ms As z G (zRi S)) (hY : zYh y cy maxL ret hh np) (hLk : zLs own idx y) (hd : decode cc pc = .ok (.invokestatic idx, 3)) (hst : st0 = As.reverse ++ st) (hnp : As.length = np) (hrm : fr + 1 ≤ R.frames ∧ 8 + (maxL + 11) + lo ≤ R.locals) (hW : (st.map fun v => v.category).sum ≤ 8) (hf : k + mc ≤ R.cells ∧ n + ms ≤ R.slots)
    (kk : ∀ (r : Int32) (z' : Nat) (G' : zG), S r z' G' → zT p l e R s m args below meth c Q D B nL (k + mc) (n + ms) (pc + 3) (.int r :: st) L z' G') : zT p l e R s m args below meth c Q D B nL k n pc st0 L z G := by
  intro H locs ls hR hS hl
  subst hst
  have hT : GoodIn zgt (va_wsS own idx y (zwsh y cy maxL ret hh)) := by
    intro w hw
    have hm : w ∈ zgt := by
      unfold va_wsS at hw
      rcases List.mem_append.mp hw with h | h
      · rcases List.mem_cons.mp h with rfl | h
        · exact hLk.1
        · rcases List.mem_cons.mp h with rfl | h
          · exact hLk.2
          · rcases List.mem_cons.mp h with rfl | h
            · exact hY.2.1
            · exact absurd h List.not_mem_nil
      · rcases List.mem_cons.mp h with rfl | h
        · exact hY.1
        · exact h
    exact ⟨hm, good_of_word (zgt_good w hm)⟩
  exact z_fin (vx_runSW (rest := st) (As := As) O.cf hM (vx_cwSW np O.2.2.2.2.1 hT rfl rfl rfl hY.2.2 hrm) ⟨zPc_blind, zPre O hR hS _⟩ rfl hnp hl.1 rfl (lv_room hW) hd hf) hS hl (fun v z' G' ⟨r, hv, h⟩ => by subst hv; exact kk r z' G' h)
theorem z_catch {E : String} (pre : List ExceptionTableEntry) (x : ExceptionTableEntry) (suf : List ExceptionTableEntry) (O : zO p l s m args c D B sa nL cc own) (hsplit : c.exceptionTable.toList = pre ++ x :: suf)
    (hpass : ∀ z ∈ pre, covers z pc = false ∨ (z.catchType ≠ 0 ∧ ∃ nm : String, Cond.classLink own z.catchType nm ∈ zgt ∧ (E, nm) ∈ zNc)) (hx : covers x pc = true) (h0 : x.catchType ≠ 0) (hlink : Cond.classLink own x.catchType E ∈ zgt) (hE : E ∈ zCs)
    (kk : ∀ q : Nat, zT p l e R s m args below meth c Q D B nL k n x.handlerPc [.ref q] L z G) : zTx p l e R s m args below meth c Q D B nL k n pc E st L z G := by
  intro H locs ls ce q hR hS hl hce hcv hcl
  refine vx_catch O.2.2.2.1 pre x suf hsplit (fun z9 hz => ?_) hx h0 (O.w hlink) (va_Nw.use rfl (O.2.2.2.2.2.1.2.2.2.2.2.2.2.2.1 E hE)) hce hcv hcl (kk q H locs ls hR hS hl)
  rcases hpass z9 hz with h | ⟨h1, nm, h2, h3⟩
  · exact Or.inl h
  · exact Or.inr ⟨h1, nm, O.w h2, O.2.2.2.2.2.1.2.2.2.2.1 _ h3⟩
theorem y_last {a N : Nat} {f : Nat → Int64} {i : Int32} {x : Int64} (O : zO p l s m args c D B sa nL cc own) (hd : decode cc pc = .ok (.lastore, 1)) (hG : G a = some (zla N f)) (hin : vp_in i N)
    (kk : ∀ G1, Wr G a (zla N (vp_updL f i.toNatClampNeg x)) G1 → zT p l e R s m args below meth c Q D B nL k n (pc + 1) st L z G1) : zT p l e R s m args below meth c Q D B nL k n pc (.long x :: .int i :: .ref a :: st) L z G := z_last O hd hG hin (kk _ (Wr.of _ _ _))
theorem zT_eq {pc' : Nat} (h : pc' = pc) (kk : zT p l e R s m args below meth c Q D B nL k n pc' st L z G) : zT p l e R s m args below meth c Q D B nL k n pc st L z G := h ▸ kk
end ZLW
theorem wk_RL_13 : Cond.classLink RL 13 "java/lang/IllegalArgumentException" ∈ zgt := (zgt_at 428 (by decide +kernel) (by decide +kernel))
theorem wk_RL_15 : Cond.classLink RL 15 "java/lang/IllegalStateException" ∈ zgt := (zgt_at 429 (by decide +kernel) (by decide +kernel))
theorem wk_RL_28 : Cond.classLink RL 28 "java/lang/IndexOutOfBoundsException" ∈ zgt := (zgt_at 649 (by decide +kernel) (by decide +kernel))
theorem dL_append_0 : decode cL_append 0 = .ok (.aload_n 2, 1) := by decide +kernel
theorem dL_append_1 : decode cL_append 1 = .ok (.iconst 0, 1) := by decide +kernel
theorem dL_append_2 : decode cL_append 2 = .ok (.aload_n 0, 1) := by decide +kernel
theorem dL_append_3 : decode cL_append 3 = .ok (.iload_n 1, 1) := by decide +kernel
theorem dL_append_4 : decode cL_append 4 = .ok (.invokevirtual 7, 3) := by decide +kernel
theorem dL_append_7 : decode cL_append 7 = .ok (.i2l, 1) := by decide +kernel
theorem dL_append_8 : decode cL_append 8 = .ok (.lastore, 1) := by decide +kernel
theorem dL_append_9 : decode cL_append 9 = .ok (.goto 9, 3) := by decide +kernel
theorem dL_append_12 : decode cL_append 12 = .ok (.astore_n 3, 1) := by decide +kernel
theorem dL_append_13 : decode cL_append 13 = .ok (.iconst 1, 1) := by decide +kernel
theorem dL_append_14 : decode cL_append 14 = .ok (.ireturn, 1) := by decide +kernel
theorem dL_append_15 : decode cL_append 15 = .ok (.astore_n 3, 1) := by decide +kernel
theorem dL_append_16 : decode cL_append 16 = .ok (.iconst 2, 1) := by decide +kernel
theorem dL_append_17 : decode cL_append 17 = .ok (.ireturn, 1) := by decide +kernel
theorem dL_append_18 : decode cL_append 18 = .ok (.iconst 0, 1) := by decide +kernel
theorem dL_append_19 : decode cL_append 19 = .ok (.ireturn, 1) := by decide +kernel
abbrev hL_append : List (Nat × Nat × Nat × Nat) := [(0, 9, 12, 13), (0, 9, 15, 15)]
theorem wh_L_append : zYh yL_append cL_append 4 (some .int) hL_append 3 := ⟨(zgt_at 427 (by decide +kernel) (by decide +kernel)), (zgt_at 28 (by decide +kernel) (by decide +kernel)), by decide +kernel, by decide +kernel, by decide +kernel⟩
def P_LAW_append (x1 : Int32) (v0 : TT) (o : Nat → Int64) (Q : Int32 → TT → (Nat → Int64) → Prop) : Prop := P_T_append x1 v0 (fun E v => (E = "java/lang/IllegalArgumentException" → Q 1 v o) ∧ (E = "java/lang/IllegalStateException" → Q 2 v o) ∧ ((¬ E = "java/lang/IllegalArgumentException" ∧ ¬ E = "java/lang/IllegalStateException") → False)) (fun r v => Q 0 v (vp_updL o 0 (Int32.toInt64 r)))
set_option maxRecDepth 100000 in
theorem s_LAW_append {l : Launch} {D : zD} {B : Nat} {sa : Nat → Nat} (hfl : l.stackTraces = false) {z : Nat} {G : zG} {b0 b1 : Nat} {x1 : Int32} {v0 : TT} {o : Nat → Int64} {Q : Int32 → TT → (Nat → Int64) → Prop} (h0 : TA b0 v0 G) (h1 : G b1 = some (zla 1 o)) (d01 : b0 + 475 ≤ b1) (h : P_LAW_append x1 v0 o Q) : zSh l D B sa yL_append cL_append 4 (some .int) hL_append 7 111 1 6 [.ref b0, .int x1, .ref b1] z G (zRi fun r z' G' => ∃ w o', TA b0 w G' ∧ G' b1 = some (zla 1 o') ∧ (∀ x, ¬ (b0 ≤ x ∧ x < b0 + 475) → x ≠ b1 → G' x = G x) ∧ Q r w o') := by
  unfold P_LAW_append at h
  refine z_ofH (by decide +kernel) hfl [some (.ref b0), some (.int x1), some (.ref b1), none] rfl (Nat.le_of_ble_eq_true rfl) (fun p e s m args below meth c O hT hret hlk => ?_)
  have O : zO p l s m args c D B sa 4 cL_append RL := O
  refine z_aload_n O dL_append_0 rfl rfl ?_
  refine z_iconst (v := 0) O dL_append_1 (by decide) ?_
  refine z_aload_n O dL_append_2 rfl rfl ?_
  refine z_iload_n O dL_append_3 rfl rfl ?_
  refine z_callXi (As := [.int x1]) (st := [.int 0, .ref b1]) O (s_T_append hfl h0 h) wy_X5_append wl_RL_7 dL_append_4 rfl rfl (T_obj h0) ⟨by decide, rfl⟩ ⟨(Nat.le_of_ble_eq_true rfl), (Nat.le_of_ble_eq_true rfl)⟩ (Nat.le_of_ble_eq_true rfl) ⟨(Nat.le_of_ble_eq_true rfl), (Nat.le_of_ble_eq_true rfl)⟩ (fun E z1 G1 hx => ?_) (fun r z1 G1 hq => ?_)
  · obtain ⟨w, k1, k2, hx⟩ := hx
    by_cases e0 : E = "java/lang/IllegalArgumentException"
    · have hc := hx.1 e0
      subst e0
      refine z_catch [] ⟨0, 9, 12, 13⟩ [⟨0, 9, 15, 15⟩] O (hT.trans rfl) (fun z9 hz => absurd hz List.not_mem_nil) (by decide) (by decide) wk_RL_13 (by decide) (fun q9 => ?_)
      refine z_astore_n (L' := [some (.ref b0), some (.int x1), some (.ref b1), some (.ref q9)]) O dL_append_12 rfl (by decide) rfl ?_
      refine z_iconst (v := 1) O dL_append_13 (by decide) ?_
      exact z_iret O hret hlk dL_append_14 (Nat.le_of_ble_eq_true rfl) (Nat.le_of_ble_eq_true rfl) ⟨_, rfl, w, o, k1, (k2 b1 (by omega)).trans h1, (fun x hx _ => k2 x hx), hc⟩
    · skip
      by_cases e1 : E = "java/lang/IllegalStateException"
      · have hc := hx.2.1 e1
        subst e1
        refine z_catch [⟨0, 9, 12, 13⟩] ⟨0, 9, 15, 15⟩ [] O (hT.trans rfl) (fun z9 hz => by cases List.mem_singleton.mp hz; exact Or.inr ⟨by decide, _, wk_RL_13, by decide⟩) (by decide) (by decide) wk_RL_15 (by decide) (fun q9 => ?_)
        refine z_astore_n (L' := [some (.ref b0), some (.int x1), some (.ref b1), some (.ref q9)]) O dL_append_15 rfl (by decide) rfl ?_
        refine z_iconst (v := 2) O dL_append_16 (by decide) ?_
        exact z_iret O hret hlk dL_append_17 (Nat.le_of_ble_eq_true rfl) (Nat.le_of_ble_eq_true rfl) ⟨_, rfl, w, o, k1, (k2 b1 (by omega)).trans h1, (fun x hx _ => k2 x hx), hc⟩
      · exact (hx.2.2 ⟨e0, e1⟩).elim
  · obtain ⟨rfl, w, k1, k2, h⟩ := hq
    refine z_i2l O dL_append_7 ?_
    refine y_last O dL_append_8 ((k2 b1 (by omega)).trans h1) (vp_i (by decide)) (fun G2 hG2 => ?_)
    refine z_goto (tgt := 18) O dL_append_9 (by decide) ?_
    refine z_iconst (v := 0) O dL_append_18 (by decide) ?_
    exact z_iret O hret hlk dL_append_19 (Nat.le_of_ble_eq_true rfl) (Nat.le_of_ble_eq_true rfl) ⟨_, rfl, w, _, TA.eq k1 (fun q g1 g2 => hG2.2 q (by omega)), hG2.1, (fun x hx hx2 => (hG2.2 x hx2).trans (k2 x hx)), h⟩
theorem dL_load_0 : decode cL_load 0 = .ok (.aload_n 1, 1) := by decide +kernel
theorem dL_load_1 : decode cL_load 1 = .ok (.iconst 0, 1) := by decide +kernel
theorem dL_load_2 : decode cL_load 2 = .ok (.aload_n 0, 1) := by decide +kernel
theorem dL_load_3 : decode cL_load 3 = .ok (.invokevirtual 17, 3) := by decide +kernel
theorem dL_load_6 : decode cL_load 6 = .ok (.i2l, 1) := by decide +kernel
theorem dL_load_7 : decode cL_load 7 = .ok (.lastore, 1) := by decide +kernel
theorem dL_load_8 : decode cL_load 8 = .ok (.goto 6, 3) := by decide +kernel
theorem dL_load_11 : decode cL_load 11 = .ok (.astore_n 2, 1) := by decide +kernel
theorem dL_load_12 : decode cL_load 12 = .ok (.iconst 1, 1) := by decide +kernel
theorem dL_load_13 : decode cL_load 13 = .ok (.ireturn, 1) := by decide +kernel
theorem dL_load_14 : decode cL_load 14 = .ok (.iconst 0, 1) := by decide +kernel
theorem dL_load_15 : decode cL_load 15 = .ok (.ireturn, 1) := by decide +kernel
abbrev hL_load : List (Nat × Nat × Nat × Nat) := [(0, 8, 11, 15)]
theorem wh_L_load : zYh yL_load cL_load 3 (some .int) hL_load 2 := ⟨(zgt_at 531 (by decide +kernel) (by decide +kernel)), (zgt_at 28 (by decide +kernel) (by decide +kernel)), by decide +kernel, by decide +kernel, by decide +kernel⟩
def P_LAW_load  (v0 : TT) (o : Nat → Int64) (Q : Int32 → TT → (Nat → Int64) → Prop) : Prop := P_T_load  v0 (fun E v => (E = "java/lang/IllegalStateException" → Q 1 v o) ∧ ((¬ E = "java/lang/IllegalStateException") → False)) (fun r v => Q 0 v (vp_updL o 0 (Int32.toInt64 r)))
set_option maxRecDepth 100000 in
theorem s_LAW_load {l : Launch} {D : zD} {B : Nat} {sa : Nat → Nat} (hfl : l.stackTraces = false) {z : Nat} {G : zG} {b0 b1 : Nat}  {v0 : TT} {o : Nat → Int64} {Q : Int32 → TT → (Nat → Int64) → Prop} (h0 : TA b0 v0 G) (h1 : G b1 = some (zla 1 o)) (d01 : b0 + 475 ≤ b1) (h : P_LAW_load  v0 o Q) : zSh l D B sa yL_load cL_load 3 (some .int) hL_load 8 209 1 6 [.ref b0, .ref b1] z G (zRi fun r z' G' => ∃ w o', TA b0 w G' ∧ G' b1 = some (zla 1 o') ∧ (∀ x, ¬ (b0 ≤ x ∧ x < b0 + 475) → x ≠ b1 → G' x = G x) ∧ Q r w o') := by
  unfold P_LAW_load at h
  refine z_ofH (by decide +kernel) hfl [some (.ref b0), some (.ref b1), none] rfl (Nat.le_of_ble_eq_true rfl) (fun p e s m args below meth c O hT hret hlk => ?_)
  have O : zO p l s m args c D B sa 3 cL_load RL := O
  refine z_aload_n O dL_load_0 rfl rfl ?_
  refine z_iconst (v := 0) O dL_load_1 (by decide) ?_
  refine z_aload_n O dL_load_2 rfl rfl ?_
  refine z_callXi (As := []) (st := [.int 0, .ref b1]) O (s_T_load hfl h0 h) wy_X5_load wl_RL_17 dL_load_3 rfl rfl (T_obj h0) ⟨by decide, rfl⟩ ⟨(Nat.le_of_ble_eq_true rfl), (Nat.le_of_ble_eq_true rfl)⟩ (Nat.le_of_ble_eq_true rfl) ⟨(Nat.le_of_ble_eq_true rfl), (Nat.le_of_ble_eq_true rfl)⟩ (fun E z1 G1 hx => ?_) (fun r z1 G1 hq => ?_)
  · obtain ⟨w, k1, k2, hx⟩ := hx
    by_cases e0 : E = "java/lang/IllegalStateException"
    · have hc := hx.1 e0
      subst e0
      refine z_catch [] ⟨0, 8, 11, 15⟩ [] O (hT.trans rfl) (fun z9 hz => absurd hz List.not_mem_nil) (by decide) (by decide) wk_RL_15 (by decide) (fun q9 => ?_)
      refine z_astore_n (L' := [some (.ref b0), some (.ref b1), some (.ref q9)]) O dL_load_11 rfl (by decide) rfl ?_
      refine z_iconst (v := 1) O dL_load_12 (by decide) ?_
      exact z_iret O hret hlk dL_load_13 (Nat.le_of_ble_eq_true rfl) (Nat.le_of_ble_eq_true rfl) ⟨_, rfl, w, o, k1, (k2 b1 (by omega)).trans h1, (fun x hx _ => k2 x hx), hc⟩
    · exact (hx.2 e0).elim
  · obtain ⟨rfl, w, k1, k2, h⟩ := hq
    refine z_i2l O dL_load_6 ?_
    refine y_last O dL_load_7 ((k2 b1 (by omega)).trans h1) (vp_i (by decide)) (fun G2 hG2 => ?_)
    refine z_goto (tgt := 14) O dL_load_8 (by decide) ?_
    refine z_iconst (v := 0) O dL_load_14 (by decide) ?_
    exact z_iret O hret hlk dL_load_15 (Nat.le_of_ble_eq_true rfl) (Nat.le_of_ble_eq_true rfl) ⟨_, rfl, w, _, TA.eq k1 (fun q g1 g2 => hG2.2 q (by omega)), hG2.1, (fun x hx hx2 => (hG2.2 x hx2).trans (k2 x hx)), h⟩
theorem dL_about_0 : decode cL_about 0 = .ok (.aload_n 2, 1) := by decide +kernel
theorem dL_about_1 : decode cL_about 1 = .ok (.iconst 0, 1) := by decide +kernel
theorem dL_about_2 : decode cL_about 2 = .ok (.aload_n 0, 1) := by decide +kernel
theorem dL_about_3 : decode cL_about 3 = .ok (.iload_n 1, 1) := by decide +kernel
theorem dL_about_4 : decode cL_about 4 = .ok (.invokevirtual 21, 3) := by decide +kernel
theorem dL_about_7 : decode cL_about 7 = .ok (.i2l, 1) := by decide +kernel
theorem dL_about_8 : decode cL_about 8 = .ok (.lastore, 1) := by decide +kernel
theorem dL_about_9 : decode cL_about 9 = .ok (.goto 6, 3) := by decide +kernel
theorem dL_about_12 : decode cL_about 12 = .ok (.astore_n 3, 1) := by decide +kernel
theorem dL_about_13 : decode cL_about 13 = .ok (.iconst 1, 1) := by decide +kernel
theorem dL_about_14 : decode cL_about 14 = .ok (.ireturn, 1) := by decide +kernel
theorem dL_about_15 : decode cL_about 15 = .ok (.iconst 0, 1) := by decide +kernel
theorem dL_about_16 : decode cL_about 16 = .ok (.ireturn, 1) := by decide +kernel
abbrev hL_about : List (Nat × Nat × Nat × Nat) := [(0, 9, 12, 13)]
theorem wh_L_about : zYh yL_about cL_about 4 (some .int) hL_about 3 := ⟨(zgt_at 632 (by decide +kernel) (by decide +kernel)), (zgt_at 28 (by decide +kernel) (by decide +kernel)), by decide +kernel, by decide +kernel, by decide +kernel⟩
def P_LAW_about (x1 : Int32) (v0 : TT) (o : Nat → Int64) (Q : Int32 → TT → (Nat → Int64) → Prop) : Prop := P_T_about x1 v0 (fun E => (E = "java/lang/IllegalArgumentException" → Q 1 v0 o) ∧ ((¬ E = "java/lang/IllegalArgumentException") → False)) (fun r => Q 0 v0 (vp_updL o 0 (Int32.toInt64 r)))
set_option maxRecDepth 100000 in
theorem s_LAW_about {l : Launch} {D : zD} {B : Nat} {sa : Nat → Nat} (hfl : l.stackTraces = false) {z : Nat} {G : zG} {b0 b1 : Nat} {x1 : Int32} {v0 : TT} {o : Nat → Int64} {Q : Int32 → TT → (Nat → Int64) → Prop} (h0 : TA b0 v0 G) (h1 : G b1 = some (zla 1 o)) (d01 : b0 + 475 ≤ b1) (h : P_LAW_about x1 v0 o Q) : zSh l D B sa yL_about cL_about 4 (some .int) hL_about 7 129 1 6 [.ref b0, .int x1, .ref b1] z G (zRi fun r z' G' => ∃ w o', TA b0 w G' ∧ G' b1 = some (zla 1 o') ∧ (∀ x, ¬ (b0 ≤ x ∧ x < b0 + 475) → x ≠ b1 → G' x = G x) ∧ Q r w o') := by
  unfold P_LAW_about at h
  refine z_ofH (by decide +kernel) hfl [some (.ref b0), some (.int x1), some (.ref b1), none] rfl (Nat.le_of_ble_eq_true rfl) (fun p e s m args below meth c O hT hret hlk => ?_)
  have O : zO p l s m args c D B sa 4 cL_about RL := O
  refine z_aload_n O dL_about_0 rfl rfl ?_
  refine z_iconst (v := 0) O dL_about_1 (by decide) ?_
  refine z_aload_n O dL_about_2 rfl rfl ?_
  refine z_iload_n O dL_about_3 rfl rfl ?_
  refine z_callXi (As := [.int x1]) (st := [.int 0, .ref b1]) O (s_T_about hfl h0 h) wy_X5_about wl_RL_21 dL_about_4 rfl rfl (T_obj h0) ⟨by decide, rfl⟩ ⟨(Nat.le_of_ble_eq_true rfl), (Nat.le_of_ble_eq_true rfl)⟩ (Nat.le_of_ble_eq_true rfl) ⟨(Nat.le_of_ble_eq_true rfl), (Nat.le_of_ble_eq_true rfl)⟩ (fun E z1 G1 hx => ?_) (fun r z1 G1 hq => ?_)
  · obtain ⟨rfl, hx⟩ := hx
    by_cases e0 : E = "java/lang/IllegalArgumentException"
    · have hc := hx.1 e0
      subst e0
      refine z_catch [] ⟨0, 9, 12, 13⟩ [] O (hT.trans rfl) (fun z9 hz => absurd hz List.not_mem_nil) (by decide) (by decide) wk_RL_13 (by decide) (fun q9 => ?_)
      refine z_astore_n (L' := [some (.ref b0), some (.int x1), some (.ref b1), some (.ref q9)]) O dL_about_12 rfl (by decide) rfl ?_
      refine z_iconst (v := 1) O dL_about_13 (by decide) ?_
      exact z_iret O hret hlk dL_about_14 (Nat.le_of_ble_eq_true rfl) (Nat.le_of_ble_eq_true rfl) ⟨_, rfl, v0, o, h0, h1, (fun x _ _ => rfl), hc⟩
    · exact (hx.2 e0).elim
  · obtain ⟨rfl, rfl, h⟩ := hq
    refine z_i2l O dL_about_7 ?_
    refine y_last O dL_about_8 h1 (vp_i (by decide)) (fun G2 hG2 => ?_)
    refine z_goto (tgt := 15) O dL_about_9 (by decide) ?_
    refine z_iconst (v := 0) O dL_about_15 (by decide) ?_
    exact z_iret O hret hlk dL_about_16 (Nat.le_of_ble_eq_true rfl) (Nat.le_of_ble_eq_true rfl) ⟨_, rfl, v0, _, TA.eq h0 (fun q g1 g2 => hG2.2 q (by omega)), hG2.1, (fun x hx hx2 => hG2.2 x hx2), h⟩
theorem dL_rowOf_0 : decode cL_rowOf 0 = .ok (.aload_n 3, 1) := by decide +kernel
theorem dL_rowOf_1 : decode cL_rowOf 1 = .ok (.iconst 0, 1) := by decide +kernel
theorem dL_rowOf_2 : decode cL_rowOf 2 = .ok (.aload_n 0, 1) := by decide +kernel
theorem dL_rowOf_3 : decode cL_rowOf 3 = .ok (.iload_n 1, 1) := by decide +kernel
theorem dL_rowOf_4 : decode cL_rowOf 4 = .ok (.iload_n 2, 1) := by decide +kernel
theorem dL_rowOf_5 : decode cL_rowOf 5 = .ok (.invokevirtual 24, 3) := by decide +kernel
theorem dL_rowOf_8 : decode cL_rowOf 8 = .ok (.i2l, 1) := by decide +kernel
theorem dL_rowOf_9 : decode cL_rowOf 9 = .ok (.lastore, 1) := by decide +kernel
theorem dL_rowOf_10 : decode cL_rowOf 10 = .ok (.goto 11, 3) := by decide +kernel
theorem dL_rowOf_13 : decode cL_rowOf 13 = .ok (.astore 4, 2) := by decide +kernel
theorem dL_rowOf_15 : decode cL_rowOf 15 = .ok (.iconst 1, 1) := by decide +kernel
theorem dL_rowOf_16 : decode cL_rowOf 16 = .ok (.ireturn, 1) := by decide +kernel
theorem dL_rowOf_17 : decode cL_rowOf 17 = .ok (.astore 4, 2) := by decide +kernel
theorem dL_rowOf_19 : decode cL_rowOf 19 = .ok (.iconst 2, 1) := by decide +kernel
theorem dL_rowOf_20 : decode cL_rowOf 20 = .ok (.ireturn, 1) := by decide +kernel
theorem dL_rowOf_21 : decode cL_rowOf 21 = .ok (.iconst 0, 1) := by decide +kernel
theorem dL_rowOf_22 : decode cL_rowOf 22 = .ok (.ireturn, 1) := by decide +kernel
abbrev hL_rowOf : List (Nat × Nat × Nat × Nat) := [(0, 10, 13, 28), (0, 10, 17, 13)]
theorem wh_L_rowOf : zYh yL_rowOf cL_rowOf 5 (some .int) hL_rowOf 4 := ⟨(zgt_at 648 (by decide +kernel) (by decide +kernel)), (zgt_at 28 (by decide +kernel) (by decide +kernel)), by decide +kernel, by decide +kernel, by decide +kernel⟩
def P_LAW_rowOf (x1 : Int32) (x2 : Int32) (v0 : TT) (o : Nat → Int64) (Q : Int32 → TT → (Nat → Int64) → Prop) : Prop := P_T_rowOf x1 x2 v0 (fun E => (E = "java/lang/IndexOutOfBoundsException" → Q 1 v0 o) ∧ (E = "java/lang/IllegalArgumentException" → Q 2 v0 o) ∧ ((¬ E = "java/lang/IndexOutOfBoundsException" ∧ ¬ E = "java/lang/IllegalArgumentException") → False)) (fun r => Q 0 v0 (vp_updL o 0 (Int32.toInt64 r)))
set_option maxRecDepth 100000 in
theorem s_LAW_rowOf {l : Launch} {D : zD} {B : Nat} {sa : Nat → Nat} (hfl : l.stackTraces = false) {z : Nat} {G : zG} {b0 b1 : Nat} {x1 : Int32} {x2 : Int32} {v0 : TT} {o : Nat → Int64} {Q : Int32 → TT → (Nat → Int64) → Prop} (h0 : TA b0 v0 G) (h1 : G b1 = some (zla 1 o)) (d01 : b0 + 475 ≤ b1) (h : P_LAW_rowOf x1 x2 v0 o Q) : zSh l D B sa yL_rowOf cL_rowOf 5 (some .int) hL_rowOf 7 112 1 6 [.ref b0, .int x1, .int x2, .ref b1] z G (zRi fun r z' G' => ∃ w o', TA b0 w G' ∧ G' b1 = some (zla 1 o') ∧ (∀ x, ¬ (b0 ≤ x ∧ x < b0 + 475) → x ≠ b1 → G' x = G x) ∧ Q r w o') := by
  unfold P_LAW_rowOf at h
  refine z_ofH (by decide +kernel) hfl [some (.ref b0), some (.int x1), some (.int x2), some (.ref b1), none] rfl (Nat.le_of_ble_eq_true rfl) (fun p e s m args below meth c O hT hret hlk => ?_)
  have O : zO p l s m args c D B sa 5 cL_rowOf RL := O
  refine z_aload_n O dL_rowOf_0 rfl rfl ?_
  refine z_iconst (v := 0) O dL_rowOf_1 (by decide) ?_
  refine z_aload_n O dL_rowOf_2 rfl rfl ?_
  refine z_iload_n O dL_rowOf_3 rfl rfl ?_
  refine z_iload_n O dL_rowOf_4 rfl rfl ?_
  refine z_callXi (As := [.int x1, .int x2]) (st := [.int 0, .ref b1]) O (s_T_rowOf hfl h0 h) wy_X5_rowOf wl_RL_24 dL_rowOf_5 rfl rfl (T_obj h0) ⟨by decide, rfl⟩ ⟨(Nat.le_of_ble_eq_true rfl), (Nat.le_of_ble_eq_true rfl)⟩ (Nat.le_of_ble_eq_true rfl) ⟨(Nat.le_of_ble_eq_true rfl), (Nat.le_of_ble_eq_true rfl)⟩ (fun E z1 G1 hx => ?_) (fun r z1 G1 hq => ?_)
  · obtain ⟨rfl, hx⟩ := hx
    by_cases e0 : E = "java/lang/IndexOutOfBoundsException"
    · have hc := hx.1 e0
      subst e0
      refine z_catch [] ⟨0, 10, 13, 28⟩ [⟨0, 10, 17, 13⟩] O (hT.trans rfl) (fun z9 hz => absurd hz List.not_mem_nil) (by decide) (by decide) wk_RL_28 (by decide) (fun q9 => ?_)
      refine z_astore (L' := [some (.ref b0), some (.int x1), some (.int x2), some (.ref b1), some (.ref q9)]) O dL_rowOf_13 (by decide) rfl ?_
      refine z_iconst (v := 1) O dL_rowOf_15 (by decide) ?_
      exact z_iret O hret hlk dL_rowOf_16 (Nat.le_of_ble_eq_true rfl) (Nat.le_of_ble_eq_true rfl) ⟨_, rfl, v0, o, h0, h1, (fun x _ _ => rfl), hc⟩
    · skip
      by_cases e1 : E = "java/lang/IllegalArgumentException"
      · have hc := hx.2.1 e1
        subst e1
        refine z_catch [⟨0, 10, 13, 28⟩] ⟨0, 10, 17, 13⟩ [] O (hT.trans rfl) (fun z9 hz => by cases List.mem_singleton.mp hz; exact Or.inr ⟨by decide, _, wk_RL_28, by decide⟩) (by decide) (by decide) wk_RL_13 (by decide) (fun q9 => ?_)
        refine z_astore (L' := [some (.ref b0), some (.int x1), some (.int x2), some (.ref b1), some (.ref q9)]) O dL_rowOf_17 (by decide) rfl ?_
        refine z_iconst (v := 2) O dL_rowOf_19 (by decide) ?_
        exact z_iret O hret hlk dL_rowOf_20 (Nat.le_of_ble_eq_true rfl) (Nat.le_of_ble_eq_true rfl) ⟨_, rfl, v0, o, h0, h1, (fun x _ _ => rfl), hc⟩
      · exact (hx.2.2 ⟨e0, e1⟩).elim
  · obtain ⟨rfl, rfl, h⟩ := hq
    refine z_i2l O dL_rowOf_8 ?_
    refine y_last O dL_rowOf_9 h1 (vp_i (by decide)) (fun G2 hG2 => ?_)
    refine z_goto (tgt := 21) O dL_rowOf_10 (by decide) ?_
    refine z_iconst (v := 0) O dL_rowOf_21 (by decide) ?_
    exact z_iret O hret hlk dL_rowOf_22 (Nat.le_of_ble_eq_true rfl) (Nat.le_of_ble_eq_true rfl) ⟨_, rfl, v0, _, TA.eq h0 (fun q g1 g2 => hG2.2 q (by omega)), hG2.1, (fun x hx hx2 => hG2.2 x hx2), h⟩
theorem dL_segmentOf_0 : decode cL_segmentOf 0 = .ok (.aload_n 3, 1) := by decide +kernel
theorem dL_segmentOf_1 : decode cL_segmentOf 1 = .ok (.iconst 0, 1) := by decide +kernel
theorem dL_segmentOf_2 : decode cL_segmentOf 2 = .ok (.aload_n 0, 1) := by decide +kernel
theorem dL_segmentOf_3 : decode cL_segmentOf 3 = .ok (.iload_n 1, 1) := by decide +kernel
theorem dL_segmentOf_4 : decode cL_segmentOf 4 = .ok (.iload_n 2, 1) := by decide +kernel
theorem dL_segmentOf_5 : decode cL_segmentOf 5 = .ok (.invokevirtual 30, 3) := by decide +kernel
theorem dL_segmentOf_8 : decode cL_segmentOf 8 = .ok (.i2l, 1) := by decide +kernel
theorem dL_segmentOf_9 : decode cL_segmentOf 9 = .ok (.lastore, 1) := by decide +kernel
theorem dL_segmentOf_10 : decode cL_segmentOf 10 = .ok (.goto 11, 3) := by decide +kernel
theorem dL_segmentOf_13 : decode cL_segmentOf 13 = .ok (.astore 4, 2) := by decide +kernel
theorem dL_segmentOf_15 : decode cL_segmentOf 15 = .ok (.iconst 1, 1) := by decide +kernel
theorem dL_segmentOf_16 : decode cL_segmentOf 16 = .ok (.ireturn, 1) := by decide +kernel
theorem dL_segmentOf_17 : decode cL_segmentOf 17 = .ok (.astore 4, 2) := by decide +kernel
theorem dL_segmentOf_19 : decode cL_segmentOf 19 = .ok (.iconst 2, 1) := by decide +kernel
theorem dL_segmentOf_20 : decode cL_segmentOf 20 = .ok (.ireturn, 1) := by decide +kernel
theorem dL_segmentOf_21 : decode cL_segmentOf 21 = .ok (.iconst 0, 1) := by decide +kernel
theorem dL_segmentOf_22 : decode cL_segmentOf 22 = .ok (.ireturn, 1) := by decide +kernel
abbrev hL_segmentOf : List (Nat × Nat × Nat × Nat) := [(0, 10, 13, 28), (0, 10, 17, 13)]
theorem wh_L_segmentOf : zYh yL_segmentOf cL_segmentOf 5 (some .int) hL_segmentOf 4 := ⟨(zgt_at 687 (by decide +kernel) (by decide +kernel)), (zgt_at 28 (by decide +kernel) (by decide +kernel)), by decide +kernel, by decide +kernel, by decide +kernel⟩
def P_LAW_segmentOf (x1 : Int32) (x2 : Int32) (v0 : TT) (o : Nat → Int64) (Q : Int32 → TT → (Nat → Int64) → Prop) : Prop := P_T_segmentOf x1 x2 v0 (fun E => (E = "java/lang/IndexOutOfBoundsException" → Q 1 v0 o) ∧ (E = "java/lang/IllegalArgumentException" → Q 2 v0 o) ∧ ((¬ E = "java/lang/IndexOutOfBoundsException" ∧ ¬ E = "java/lang/IllegalArgumentException") → False)) (fun r => Q 0 v0 (vp_updL o 0 (Int32.toInt64 r)))
set_option maxRecDepth 100000 in
theorem s_LAW_segmentOf {l : Launch} {D : zD} {B : Nat} {sa : Nat → Nat} (hfl : l.stackTraces = false) {z : Nat} {G : zG} {b0 b1 : Nat} {x1 : Int32} {x2 : Int32} {v0 : TT} {o : Nat → Int64} {Q : Int32 → TT → (Nat → Int64) → Prop} (h0 : TA b0 v0 G) (h1 : G b1 = some (zla 1 o)) (d01 : b0 + 475 ≤ b1) (h : P_LAW_segmentOf x1 x2 v0 o Q) : zSh l D B sa yL_segmentOf cL_segmentOf 5 (some .int) hL_segmentOf 7 112 1 6 [.ref b0, .int x1, .int x2, .ref b1] z G (zRi fun r z' G' => ∃ w o', TA b0 w G' ∧ G' b1 = some (zla 1 o') ∧ (∀ x, ¬ (b0 ≤ x ∧ x < b0 + 475) → x ≠ b1 → G' x = G x) ∧ Q r w o') := by
  unfold P_LAW_segmentOf at h
  refine z_ofH (by decide +kernel) hfl [some (.ref b0), some (.int x1), some (.int x2), some (.ref b1), none] rfl (Nat.le_of_ble_eq_true rfl) (fun p e s m args below meth c O hT hret hlk => ?_)
  have O : zO p l s m args c D B sa 5 cL_segmentOf RL := O
  refine z_aload_n O dL_segmentOf_0 rfl rfl ?_
  refine z_iconst (v := 0) O dL_segmentOf_1 (by decide) ?_
  refine z_aload_n O dL_segmentOf_2 rfl rfl ?_
  refine z_iload_n O dL_segmentOf_3 rfl rfl ?_
  refine z_iload_n O dL_segmentOf_4 rfl rfl ?_
  refine z_callXi (As := [.int x1, .int x2]) (st := [.int 0, .ref b1]) O (s_T_segmentOf hfl h0 h) wy_X5_segmentOf wl_RL_30 dL_segmentOf_5 rfl rfl (T_obj h0) ⟨by decide, rfl⟩ ⟨(Nat.le_of_ble_eq_true rfl), (Nat.le_of_ble_eq_true rfl)⟩ (Nat.le_of_ble_eq_true rfl) ⟨(Nat.le_of_ble_eq_true rfl), (Nat.le_of_ble_eq_true rfl)⟩ (fun E z1 G1 hx => ?_) (fun r z1 G1 hq => ?_)
  · obtain ⟨rfl, hx⟩ := hx
    by_cases e0 : E = "java/lang/IndexOutOfBoundsException"
    · have hc := hx.1 e0
      subst e0
      refine z_catch [] ⟨0, 10, 13, 28⟩ [⟨0, 10, 17, 13⟩] O (hT.trans rfl) (fun z9 hz => absurd hz List.not_mem_nil) (by decide) (by decide) wk_RL_28 (by decide) (fun q9 => ?_)
      refine z_astore (L' := [some (.ref b0), some (.int x1), some (.int x2), some (.ref b1), some (.ref q9)]) O dL_segmentOf_13 (by decide) rfl ?_
      refine z_iconst (v := 1) O dL_segmentOf_15 (by decide) ?_
      exact z_iret O hret hlk dL_segmentOf_16 (Nat.le_of_ble_eq_true rfl) (Nat.le_of_ble_eq_true rfl) ⟨_, rfl, v0, o, h0, h1, (fun x _ _ => rfl), hc⟩
    · skip
      by_cases e1 : E = "java/lang/IllegalArgumentException"
      · have hc := hx.2.1 e1
        subst e1
        refine z_catch [⟨0, 10, 13, 28⟩] ⟨0, 10, 17, 13⟩ [] O (hT.trans rfl) (fun z9 hz => by cases List.mem_singleton.mp hz; exact Or.inr ⟨by decide, _, wk_RL_28, by decide⟩) (by decide) (by decide) wk_RL_13 (by decide) (fun q9 => ?_)
        refine z_astore (L' := [some (.ref b0), some (.int x1), some (.int x2), some (.ref b1), some (.ref q9)]) O dL_segmentOf_17 (by decide) rfl ?_
        refine z_iconst (v := 2) O dL_segmentOf_19 (by decide) ?_
        exact z_iret O hret hlk dL_segmentOf_20 (Nat.le_of_ble_eq_true rfl) (Nat.le_of_ble_eq_true rfl) ⟨_, rfl, v0, o, h0, h1, (fun x _ _ => rfl), hc⟩
      · exact (hx.2.2 ⟨e0, e1⟩).elim
  · obtain ⟨rfl, rfl, h⟩ := hq
    refine z_i2l O dL_segmentOf_8 ?_
    refine y_last O dL_segmentOf_9 h1 (vp_i (by decide)) (fun G2 hG2 => ?_)
    refine z_goto (tgt := 21) O dL_segmentOf_10 (by decide) ?_
    refine z_iconst (v := 0) O dL_segmentOf_21 (by decide) ?_
    exact z_iret O hret hlk dL_segmentOf_22 (Nat.le_of_ble_eq_true rfl) (Nat.le_of_ble_eq_true rfl) ⟨_, rfl, v0, _, TA.eq h0 (fun q g1 g2 => hG2.2 q (by omega)), hG2.1, (fun x hx hx2 => hG2.2 x hx2), h⟩
theorem dL_readerOf_0 : decode cL_readerOf 0 = .ok (.aload_n 3, 1) := by decide +kernel
theorem dL_readerOf_1 : decode cL_readerOf 1 = .ok (.iconst 0, 1) := by decide +kernel
theorem dL_readerOf_2 : decode cL_readerOf 2 = .ok (.aload_n 0, 1) := by decide +kernel
theorem dL_readerOf_3 : decode cL_readerOf 3 = .ok (.iload_n 1, 1) := by decide +kernel
theorem dL_readerOf_4 : decode cL_readerOf 4 = .ok (.iload_n 2, 1) := by decide +kernel
theorem dL_readerOf_5 : decode cL_readerOf 5 = .ok (.invokevirtual 33, 3) := by decide +kernel
theorem dL_readerOf_8 : decode cL_readerOf 8 = .ok (.i2l, 1) := by decide +kernel
theorem dL_readerOf_9 : decode cL_readerOf 9 = .ok (.lastore, 1) := by decide +kernel
theorem dL_readerOf_10 : decode cL_readerOf 10 = .ok (.goto 11, 3) := by decide +kernel
theorem dL_readerOf_13 : decode cL_readerOf 13 = .ok (.astore 4, 2) := by decide +kernel
theorem dL_readerOf_15 : decode cL_readerOf 15 = .ok (.iconst 1, 1) := by decide +kernel
theorem dL_readerOf_16 : decode cL_readerOf 16 = .ok (.ireturn, 1) := by decide +kernel
theorem dL_readerOf_17 : decode cL_readerOf 17 = .ok (.astore 4, 2) := by decide +kernel
theorem dL_readerOf_19 : decode cL_readerOf 19 = .ok (.iconst 2, 1) := by decide +kernel
theorem dL_readerOf_20 : decode cL_readerOf 20 = .ok (.ireturn, 1) := by decide +kernel
theorem dL_readerOf_21 : decode cL_readerOf 21 = .ok (.iconst 0, 1) := by decide +kernel
theorem dL_readerOf_22 : decode cL_readerOf 22 = .ok (.ireturn, 1) := by decide +kernel
abbrev hL_readerOf : List (Nat × Nat × Nat × Nat) := [(0, 10, 13, 28), (0, 10, 17, 13)]
theorem wh_L_readerOf : zYh yL_readerOf cL_readerOf 5 (some .int) hL_readerOf 4 := ⟨(zgt_at 702 (by decide +kernel) (by decide +kernel)), (zgt_at 28 (by decide +kernel) (by decide +kernel)), by decide +kernel, by decide +kernel, by decide +kernel⟩
def P_LAW_readerOf (x1 : Int32) (x2 : Int32) (v0 : TT) (o : Nat → Int64) (Q : Int32 → TT → (Nat → Int64) → Prop) : Prop := P_T_readerOf x1 x2 v0 (fun E => (E = "java/lang/IndexOutOfBoundsException" → Q 1 v0 o) ∧ (E = "java/lang/IllegalArgumentException" → Q 2 v0 o) ∧ ((¬ E = "java/lang/IndexOutOfBoundsException" ∧ ¬ E = "java/lang/IllegalArgumentException") → False)) (fun r => Q 0 v0 (vp_updL o 0 (Int32.toInt64 r)))
set_option maxRecDepth 100000 in
theorem s_LAW_readerOf {l : Launch} {D : zD} {B : Nat} {sa : Nat → Nat} (hfl : l.stackTraces = false) {z : Nat} {G : zG} {b0 b1 : Nat} {x1 : Int32} {x2 : Int32} {v0 : TT} {o : Nat → Int64} {Q : Int32 → TT → (Nat → Int64) → Prop} (h0 : TA b0 v0 G) (h1 : G b1 = some (zla 1 o)) (d01 : b0 + 475 ≤ b1) (h : P_LAW_readerOf x1 x2 v0 o Q) : zSh l D B sa yL_readerOf cL_readerOf 5 (some .int) hL_readerOf 7 113 1 6 [.ref b0, .int x1, .int x2, .ref b1] z G (zRi fun r z' G' => ∃ w o', TA b0 w G' ∧ G' b1 = some (zla 1 o') ∧ (∀ x, ¬ (b0 ≤ x ∧ x < b0 + 475) → x ≠ b1 → G' x = G x) ∧ Q r w o') := by
  unfold P_LAW_readerOf at h
  refine z_ofH (by decide +kernel) hfl [some (.ref b0), some (.int x1), some (.int x2), some (.ref b1), none] rfl (Nat.le_of_ble_eq_true rfl) (fun p e s m args below meth c O hT hret hlk => ?_)
  have O : zO p l s m args c D B sa 5 cL_readerOf RL := O
  refine z_aload_n O dL_readerOf_0 rfl rfl ?_
  refine z_iconst (v := 0) O dL_readerOf_1 (by decide) ?_
  refine z_aload_n O dL_readerOf_2 rfl rfl ?_
  refine z_iload_n O dL_readerOf_3 rfl rfl ?_
  refine z_iload_n O dL_readerOf_4 rfl rfl ?_
  refine z_callXi (As := [.int x1, .int x2]) (st := [.int 0, .ref b1]) O (s_T_readerOf hfl h0 h) wy_X5_readerOf wl_RL_33 dL_readerOf_5 rfl rfl (T_obj h0) ⟨by decide, rfl⟩ ⟨(Nat.le_of_ble_eq_true rfl), (Nat.le_of_ble_eq_true rfl)⟩ (Nat.le_of_ble_eq_true rfl) ⟨(Nat.le_of_ble_eq_true rfl), (Nat.le_of_ble_eq_true rfl)⟩ (fun E z1 G1 hx => ?_) (fun r z1 G1 hq => ?_)
  · obtain ⟨rfl, hx⟩ := hx
    by_cases e0 : E = "java/lang/IndexOutOfBoundsException"
    · have hc := hx.1 e0
      subst e0
      refine z_catch [] ⟨0, 10, 13, 28⟩ [⟨0, 10, 17, 13⟩] O (hT.trans rfl) (fun z9 hz => absurd hz List.not_mem_nil) (by decide) (by decide) wk_RL_28 (by decide) (fun q9 => ?_)
      refine z_astore (L' := [some (.ref b0), some (.int x1), some (.int x2), some (.ref b1), some (.ref q9)]) O dL_readerOf_13 (by decide) rfl ?_
      refine z_iconst (v := 1) O dL_readerOf_15 (by decide) ?_
      exact z_iret O hret hlk dL_readerOf_16 (Nat.le_of_ble_eq_true rfl) (Nat.le_of_ble_eq_true rfl) ⟨_, rfl, v0, o, h0, h1, (fun x _ _ => rfl), hc⟩
    · skip
      by_cases e1 : E = "java/lang/IllegalArgumentException"
      · have hc := hx.2.1 e1
        subst e1
        refine z_catch [⟨0, 10, 13, 28⟩] ⟨0, 10, 17, 13⟩ [] O (hT.trans rfl) (fun z9 hz => by cases List.mem_singleton.mp hz; exact Or.inr ⟨by decide, _, wk_RL_28, by decide⟩) (by decide) (by decide) wk_RL_13 (by decide) (fun q9 => ?_)
        refine z_astore (L' := [some (.ref b0), some (.int x1), some (.int x2), some (.ref b1), some (.ref q9)]) O dL_readerOf_17 (by decide) rfl ?_
        refine z_iconst (v := 2) O dL_readerOf_19 (by decide) ?_
        exact z_iret O hret hlk dL_readerOf_20 (Nat.le_of_ble_eq_true rfl) (Nat.le_of_ble_eq_true rfl) ⟨_, rfl, v0, o, h0, h1, (fun x _ _ => rfl), hc⟩
      · exact (hx.2.2 ⟨e0, e1⟩).elim
  · obtain ⟨rfl, rfl, h⟩ := hq
    refine z_i2l O dL_readerOf_8 ?_
    refine y_last O dL_readerOf_9 h1 (vp_i (by decide)) (fun G2 hG2 => ?_)
    refine z_goto (tgt := 21) O dL_readerOf_10 (by decide) ?_
    refine z_iconst (v := 0) O dL_readerOf_21 (by decide) ?_
    exact z_iret O hret hlk dL_readerOf_22 (Nat.le_of_ble_eq_true rfl) (Nat.le_of_ble_eq_true rfl) ⟨_, rfl, v0, _, TA.eq h0 (fun q g1 g2 => hG2.2 q (by omega)), hG2.1, (fun x hx hx2 => hG2.2 x hx2), h⟩
theorem dL_table_0 : decode cL_table 0 = .ok (.aload_n 3, 1) := by decide +kernel
theorem dL_table_1 : decode cL_table 1 = .ok (.iconst 0, 1) := by decide +kernel
theorem dL_table_2 : decode cL_table 2 = .ok (.aload_n 0, 1) := by decide +kernel
theorem dL_table_3 : decode cL_table 3 = .ok (.iload_n 1, 1) := by decide +kernel
theorem dL_table_4 : decode cL_table 4 = .ok (.iload_n 2, 1) := by decide +kernel
theorem dL_table_5 : decode cL_table 5 = .ok (.invokevirtual 36, 3) := by decide +kernel
theorem dL_table_8 : decode cL_table 8 = .ok (.i2l, 1) := by decide +kernel
theorem dL_table_9 : decode cL_table 9 = .ok (.lastore, 1) := by decide +kernel
theorem dL_table_10 : decode cL_table 10 = .ok (.goto 11, 3) := by decide +kernel
theorem dL_table_13 : decode cL_table 13 = .ok (.astore 4, 2) := by decide +kernel
theorem dL_table_15 : decode cL_table 15 = .ok (.iconst 1, 1) := by decide +kernel
theorem dL_table_16 : decode cL_table 16 = .ok (.ireturn, 1) := by decide +kernel
theorem dL_table_17 : decode cL_table 17 = .ok (.astore 4, 2) := by decide +kernel
theorem dL_table_19 : decode cL_table 19 = .ok (.iconst 2, 1) := by decide +kernel
theorem dL_table_20 : decode cL_table 20 = .ok (.ireturn, 1) := by decide +kernel
theorem dL_table_21 : decode cL_table 21 = .ok (.iconst 0, 1) := by decide +kernel
theorem dL_table_22 : decode cL_table 22 = .ok (.ireturn, 1) := by decide +kernel
abbrev hL_table : List (Nat × Nat × Nat × Nat) := [(0, 10, 13, 28), (0, 10, 17, 13)]
theorem wh_L_table : zYh yL_table cL_table 5 (some .int) hL_table 4 := ⟨(zgt_at 719 (by decide +kernel) (by decide +kernel)), (zgt_at 28 (by decide +kernel) (by decide +kernel)), by decide +kernel, by decide +kernel, by decide +kernel⟩
def P_LAW_table (x1 : Int32) (x2 : Int32) (v0 : TT) (o : Nat → Int64) (Q : Int32 → TT → (Nat → Int64) → Prop) : Prop := P_T_table x1 x2 v0 (fun E => (E = "java/lang/IndexOutOfBoundsException" → Q 1 v0 o) ∧ (E = "java/lang/IllegalArgumentException" → Q 2 v0 o) ∧ ((¬ E = "java/lang/IndexOutOfBoundsException" ∧ ¬ E = "java/lang/IllegalArgumentException") → False)) (fun r => Q 0 v0 (vp_updL o 0 (Int32.toInt64 r)))
set_option maxRecDepth 100000 in
theorem s_LAW_table {l : Launch} {D : zD} {B : Nat} {sa : Nat → Nat} (hfl : l.stackTraces = false) {z : Nat} {G : zG} {b0 b1 : Nat} {x1 : Int32} {x2 : Int32} {v0 : TT} {o : Nat → Int64} {Q : Int32 → TT → (Nat → Int64) → Prop} (h0 : TA b0 v0 G) (h1 : G b1 = some (zla 1 o)) (d01 : b0 + 475 ≤ b1) (h : P_LAW_table x1 x2 v0 o Q) : zSh l D B sa yL_table cL_table 5 (some .int) hL_table 7 113 1 6 [.ref b0, .int x1, .int x2, .ref b1] z G (zRi fun r z' G' => ∃ w o', TA b0 w G' ∧ G' b1 = some (zla 1 o') ∧ (∀ x, ¬ (b0 ≤ x ∧ x < b0 + 475) → x ≠ b1 → G' x = G x) ∧ Q r w o') := by
  unfold P_LAW_table at h
  refine z_ofH (by decide +kernel) hfl [some (.ref b0), some (.int x1), some (.int x2), some (.ref b1), none] rfl (Nat.le_of_ble_eq_true rfl) (fun p e s m args below meth c O hT hret hlk => ?_)
  have O : zO p l s m args c D B sa 5 cL_table RL := O
  refine z_aload_n O dL_table_0 rfl rfl ?_
  refine z_iconst (v := 0) O dL_table_1 (by decide) ?_
  refine z_aload_n O dL_table_2 rfl rfl ?_
  refine z_iload_n O dL_table_3 rfl rfl ?_
  refine z_iload_n O dL_table_4 rfl rfl ?_
  refine z_callXi (As := [.int x1, .int x2]) (st := [.int 0, .ref b1]) O (s_T_table hfl h0 h) wy_X5_table wl_RL_36 dL_table_5 rfl rfl (T_obj h0) ⟨by decide, rfl⟩ ⟨(Nat.le_of_ble_eq_true rfl), (Nat.le_of_ble_eq_true rfl)⟩ (Nat.le_of_ble_eq_true rfl) ⟨(Nat.le_of_ble_eq_true rfl), (Nat.le_of_ble_eq_true rfl)⟩ (fun E z1 G1 hx => ?_) (fun r z1 G1 hq => ?_)
  · obtain ⟨rfl, hx⟩ := hx
    by_cases e0 : E = "java/lang/IndexOutOfBoundsException"
    · have hc := hx.1 e0
      subst e0
      refine z_catch [] ⟨0, 10, 13, 28⟩ [⟨0, 10, 17, 13⟩] O (hT.trans rfl) (fun z9 hz => absurd hz List.not_mem_nil) (by decide) (by decide) wk_RL_28 (by decide) (fun q9 => ?_)
      refine z_astore (L' := [some (.ref b0), some (.int x1), some (.int x2), some (.ref b1), some (.ref q9)]) O dL_table_13 (by decide) rfl ?_
      refine z_iconst (v := 1) O dL_table_15 (by decide) ?_
      exact z_iret O hret hlk dL_table_16 (Nat.le_of_ble_eq_true rfl) (Nat.le_of_ble_eq_true rfl) ⟨_, rfl, v0, o, h0, h1, (fun x _ _ => rfl), hc⟩
    · skip
      by_cases e1 : E = "java/lang/IllegalArgumentException"
      · have hc := hx.2.1 e1
        subst e1
        refine z_catch [⟨0, 10, 13, 28⟩] ⟨0, 10, 17, 13⟩ [] O (hT.trans rfl) (fun z9 hz => by cases List.mem_singleton.mp hz; exact Or.inr ⟨by decide, _, wk_RL_28, by decide⟩) (by decide) (by decide) wk_RL_13 (by decide) (fun q9 => ?_)
        refine z_astore (L' := [some (.ref b0), some (.int x1), some (.int x2), some (.ref b1), some (.ref q9)]) O dL_table_17 (by decide) rfl ?_
        refine z_iconst (v := 2) O dL_table_19 (by decide) ?_
        exact z_iret O hret hlk dL_table_20 (Nat.le_of_ble_eq_true rfl) (Nat.le_of_ble_eq_true rfl) ⟨_, rfl, v0, o, h0, h1, (fun x _ _ => rfl), hc⟩
      · exact (hx.2.2 ⟨e0, e1⟩).elim
  · obtain ⟨rfl, rfl, h⟩ := hq
    refine z_i2l O dL_table_8 ?_
    refine y_last O dL_table_9 h1 (vp_i (by decide)) (fun G2 hG2 => ?_)
    refine z_goto (tgt := 21) O dL_table_10 (by decide) ?_
    refine z_iconst (v := 0) O dL_table_21 (by decide) ?_
    exact z_iret O hret hlk dL_table_22 (Nat.le_of_ble_eq_true rfl) (Nat.le_of_ble_eq_true rfl) ⟨_, rfl, v0, _, TA.eq h0 (fun q g1 g2 => hG2.2 q (by omega)), hG2.1, (fun x hx hx2 => hG2.2 x hx2), h⟩
theorem dL_base_0 : decode cL_base 0 = .ok (.aload_n 2, 1) := by decide +kernel
theorem dL_base_1 : decode cL_base 1 = .ok (.iconst 0, 1) := by decide +kernel
theorem dL_base_2 : decode cL_base 2 = .ok (.aload_n 0, 1) := by decide +kernel
theorem dL_base_3 : decode cL_base 3 = .ok (.iload_n 1, 1) := by decide +kernel
theorem dL_base_4 : decode cL_base 4 = .ok (.invokevirtual 39, 3) := by decide +kernel
theorem dL_base_7 : decode cL_base 7 = .ok (.i2l, 1) := by decide +kernel
theorem dL_base_8 : decode cL_base 8 = .ok (.lastore, 1) := by decide +kernel
theorem dL_base_9 : decode cL_base 9 = .ok (.goto 6, 3) := by decide +kernel
theorem dL_base_12 : decode cL_base 12 = .ok (.astore_n 3, 1) := by decide +kernel
theorem dL_base_13 : decode cL_base 13 = .ok (.iconst 1, 1) := by decide +kernel
theorem dL_base_14 : decode cL_base 14 = .ok (.ireturn, 1) := by decide +kernel
theorem dL_base_15 : decode cL_base 15 = .ok (.iconst 0, 1) := by decide +kernel
theorem dL_base_16 : decode cL_base 16 = .ok (.ireturn, 1) := by decide +kernel
abbrev hL_base : List (Nat × Nat × Nat × Nat) := [(0, 9, 12, 13)]
theorem wh_L_base : zYh yL_base cL_base 4 (some .int) hL_base 3 := ⟨(zgt_at 728 (by decide +kernel) (by decide +kernel)), (zgt_at 28 (by decide +kernel) (by decide +kernel)), by decide +kernel, by decide +kernel, by decide +kernel⟩
def P_LAW_base (x1 : Int32) (v0 : TT) (o : Nat → Int64) (Q : Int32 → TT → (Nat → Int64) → Prop) : Prop := P_T_base x1 v0 (fun E => (E = "java/lang/IllegalArgumentException" → Q 1 v0 o) ∧ ((¬ E = "java/lang/IllegalArgumentException") → False)) (fun r => Q 0 v0 (vp_updL o 0 (Int32.toInt64 r)))
set_option maxRecDepth 100000 in
theorem s_LAW_base {l : Launch} {D : zD} {B : Nat} {sa : Nat → Nat} (hfl : l.stackTraces = false) {z : Nat} {G : zG} {b0 b1 : Nat} {x1 : Int32} {v0 : TT} {o : Nat → Int64} {Q : Int32 → TT → (Nat → Int64) → Prop} (h0 : TA b0 v0 G) (h1 : G b1 = some (zla 1 o)) (d01 : b0 + 475 ≤ b1) (h : P_LAW_base x1 v0 o Q) : zSh l D B sa yL_base cL_base 4 (some .int) hL_base 7 111 1 6 [.ref b0, .int x1, .ref b1] z G (zRi fun r z' G' => ∃ w o', TA b0 w G' ∧ G' b1 = some (zla 1 o') ∧ (∀ x, ¬ (b0 ≤ x ∧ x < b0 + 475) → x ≠ b1 → G' x = G x) ∧ Q r w o') := by
  unfold P_LAW_base at h
  refine z_ofH (by decide +kernel) hfl [some (.ref b0), some (.int x1), some (.ref b1), none] rfl (Nat.le_of_ble_eq_true rfl) (fun p e s m args below meth c O hT hret hlk => ?_)
  have O : zO p l s m args c D B sa 4 cL_base RL := O
  refine z_aload_n O dL_base_0 rfl rfl ?_
  refine z_iconst (v := 0) O dL_base_1 (by decide) ?_
  refine z_aload_n O dL_base_2 rfl rfl ?_
  refine z_iload_n O dL_base_3 rfl rfl ?_
  refine z_callXi (As := [.int x1]) (st := [.int 0, .ref b1]) O (s_T_base hfl h0 h) wy_X5_base wl_RL_39 dL_base_4 rfl rfl (T_obj h0) ⟨by decide, rfl⟩ ⟨(Nat.le_of_ble_eq_true rfl), (Nat.le_of_ble_eq_true rfl)⟩ (Nat.le_of_ble_eq_true rfl) ⟨(Nat.le_of_ble_eq_true rfl), (Nat.le_of_ble_eq_true rfl)⟩ (fun E z1 G1 hx => ?_) (fun r z1 G1 hq => ?_)
  · obtain ⟨rfl, hx⟩ := hx
    by_cases e0 : E = "java/lang/IllegalArgumentException"
    · have hc := hx.1 e0
      subst e0
      refine z_catch [] ⟨0, 9, 12, 13⟩ [] O (hT.trans rfl) (fun z9 hz => absurd hz List.not_mem_nil) (by decide) (by decide) wk_RL_13 (by decide) (fun q9 => ?_)
      refine z_astore_n (L' := [some (.ref b0), some (.int x1), some (.ref b1), some (.ref q9)]) O dL_base_12 rfl (by decide) rfl ?_
      refine z_iconst (v := 1) O dL_base_13 (by decide) ?_
      exact z_iret O hret hlk dL_base_14 (Nat.le_of_ble_eq_true rfl) (Nat.le_of_ble_eq_true rfl) ⟨_, rfl, v0, o, h0, h1, (fun x _ _ => rfl), hc⟩
    · exact (hx.2 e0).elim
  · obtain ⟨rfl, rfl, h⟩ := hq
    refine z_i2l O dL_base_7 ?_
    refine y_last O dL_base_8 h1 (vp_i (by decide)) (fun G2 hG2 => ?_)
    refine z_goto (tgt := 15) O dL_base_9 (by decide) ?_
    refine z_iconst (v := 0) O dL_base_15 (by decide) ?_
    exact z_iret O hret hlk dL_base_16 (Nat.le_of_ble_eq_true rfl) (Nat.le_of_ble_eq_true rfl) ⟨_, rfl, v0, _, TA.eq h0 (fun q g1 g2 => hG2.2 q (by omega)), hG2.1, (fun x hx hx2 => hG2.2 x hx2), h⟩
theorem dL_setting_0 : decode cL_setting 0 = .ok (.aload_n 2, 1) := by decide +kernel
theorem dL_setting_1 : decode cL_setting 1 = .ok (.iconst 0, 1) := by decide +kernel
theorem dL_setting_2 : decode cL_setting 2 = .ok (.aload_n 0, 1) := by decide +kernel
theorem dL_setting_3 : decode cL_setting 3 = .ok (.iload_n 1, 1) := by decide +kernel
theorem dL_setting_4 : decode cL_setting 4 = .ok (.invokevirtual 42, 3) := by decide +kernel
theorem dL_setting_7 : decode cL_setting 7 = .ok (.i2l, 1) := by decide +kernel
theorem dL_setting_8 : decode cL_setting 8 = .ok (.lastore, 1) := by decide +kernel
theorem dL_setting_9 : decode cL_setting 9 = .ok (.goto 6, 3) := by decide +kernel
theorem dL_setting_12 : decode cL_setting 12 = .ok (.astore_n 3, 1) := by decide +kernel
theorem dL_setting_13 : decode cL_setting 13 = .ok (.iconst 1, 1) := by decide +kernel
theorem dL_setting_14 : decode cL_setting 14 = .ok (.ireturn, 1) := by decide +kernel
theorem dL_setting_15 : decode cL_setting 15 = .ok (.iconst 0, 1) := by decide +kernel
theorem dL_setting_16 : decode cL_setting 16 = .ok (.ireturn, 1) := by decide +kernel
abbrev hL_setting : List (Nat × Nat × Nat × Nat) := [(0, 9, 12, 13)]
theorem wh_L_setting : zYh yL_setting cL_setting 4 (some .int) hL_setting 3 := ⟨(zgt_at 735 (by decide +kernel) (by decide +kernel)), (zgt_at 28 (by decide +kernel) (by decide +kernel)), by decide +kernel, by decide +kernel, by decide +kernel⟩
def P_LAW_setting (x1 : Int32) (v0 : TT) (o : Nat → Int64) (Q : Int32 → TT → (Nat → Int64) → Prop) : Prop := P_T_setting x1 v0 (fun E => (E = "java/lang/IllegalArgumentException" → Q 1 v0 o) ∧ ((¬ E = "java/lang/IllegalArgumentException") → False)) (fun r => Q 0 v0 (vp_updL o 0 (Int32.toInt64 r)))
set_option maxRecDepth 100000 in
theorem s_LAW_setting {l : Launch} {D : zD} {B : Nat} {sa : Nat → Nat} (hfl : l.stackTraces = false) {z : Nat} {G : zG} {b0 b1 : Nat} {x1 : Int32} {v0 : TT} {o : Nat → Int64} {Q : Int32 → TT → (Nat → Int64) → Prop} (h0 : TA b0 v0 G) (h1 : G b1 = some (zla 1 o)) (d01 : b0 + 475 ≤ b1) (h : P_LAW_setting x1 v0 o Q) : zSh l D B sa yL_setting cL_setting 4 (some .int) hL_setting 7 111 1 6 [.ref b0, .int x1, .ref b1] z G (zRi fun r z' G' => ∃ w o', TA b0 w G' ∧ G' b1 = some (zla 1 o') ∧ (∀ x, ¬ (b0 ≤ x ∧ x < b0 + 475) → x ≠ b1 → G' x = G x) ∧ Q r w o') := by
  unfold P_LAW_setting at h
  refine z_ofH (by decide +kernel) hfl [some (.ref b0), some (.int x1), some (.ref b1), none] rfl (Nat.le_of_ble_eq_true rfl) (fun p e s m args below meth c O hT hret hlk => ?_)
  have O : zO p l s m args c D B sa 4 cL_setting RL := O
  refine z_aload_n O dL_setting_0 rfl rfl ?_
  refine z_iconst (v := 0) O dL_setting_1 (by decide) ?_
  refine z_aload_n O dL_setting_2 rfl rfl ?_
  refine z_iload_n O dL_setting_3 rfl rfl ?_
  refine z_callXi (As := [.int x1]) (st := [.int 0, .ref b1]) O (s_T_setting hfl h0 h) wy_X5_setting wl_RL_42 dL_setting_4 rfl rfl (T_obj h0) ⟨by decide, rfl⟩ ⟨(Nat.le_of_ble_eq_true rfl), (Nat.le_of_ble_eq_true rfl)⟩ (Nat.le_of_ble_eq_true rfl) ⟨(Nat.le_of_ble_eq_true rfl), (Nat.le_of_ble_eq_true rfl)⟩ (fun E z1 G1 hx => ?_) (fun r z1 G1 hq => ?_)
  · obtain ⟨rfl, hx⟩ := hx
    by_cases e0 : E = "java/lang/IllegalArgumentException"
    · have hc := hx.1 e0
      subst e0
      refine z_catch [] ⟨0, 9, 12, 13⟩ [] O (hT.trans rfl) (fun z9 hz => absurd hz List.not_mem_nil) (by decide) (by decide) wk_RL_13 (by decide) (fun q9 => ?_)
      refine z_astore_n (L' := [some (.ref b0), some (.int x1), some (.ref b1), some (.ref q9)]) O dL_setting_12 rfl (by decide) rfl ?_
      refine z_iconst (v := 1) O dL_setting_13 (by decide) ?_
      exact z_iret O hret hlk dL_setting_14 (Nat.le_of_ble_eq_true rfl) (Nat.le_of_ble_eq_true rfl) ⟨_, rfl, v0, o, h0, h1, (fun x _ _ => rfl), hc⟩
    · exact (hx.2 e0).elim
  · obtain ⟨rfl, rfl, h⟩ := hq
    refine z_i2l O dL_setting_7 ?_
    refine y_last O dL_setting_8 h1 (vp_i (by decide)) (fun G2 hG2 => ?_)
    refine z_goto (tgt := 15) O dL_setting_9 (by decide) ?_
    refine z_iconst (v := 0) O dL_setting_15 (by decide) ?_
    exact z_iret O hret hlk dL_setting_16 (Nat.le_of_ble_eq_true rfl) (Nat.le_of_ble_eq_true rfl) ⟨_, rfl, v0, _, TA.eq h0 (fun q g1 g2 => hG2.2 q (by omega)), hG2.1, (fun x hx hx2 => hG2.2 x hx2), h⟩
theorem dL_write_0 : decode cL_write 0 = .ok (.aload 4, 2) := by decide +kernel
theorem dL_write_2 : decode cL_write 2 = .ok (.iconst 0, 1) := by decide +kernel
theorem dL_write_3 : decode cL_write 3 = .ok (.aload_n 0, 1) := by decide +kernel
theorem dL_write_4 : decode cL_write 4 = .ok (.iload_n 1, 1) := by decide +kernel
theorem dL_write_5 : decode cL_write 5 = .ok (.iload_n 2, 1) := by decide +kernel
theorem dL_write_6 : decode cL_write 6 = .ok (.iload_n 3, 1) := by decide +kernel
theorem dL_write_7 : decode cL_write 7 = .ok (.invokevirtual 45, 3) := by decide +kernel
theorem dL_write_10 : decode cL_write 10 = .ok (.i2l, 1) := by decide +kernel
theorem dL_write_11 : decode cL_write 11 = .ok (.lastore, 1) := by decide +kernel
theorem dL_write_12 : decode cL_write 12 = .ok (.goto 11, 3) := by decide +kernel
theorem dL_write_15 : decode cL_write 15 = .ok (.astore 5, 2) := by decide +kernel
theorem dL_write_17 : decode cL_write 17 = .ok (.iconst 1, 1) := by decide +kernel
theorem dL_write_18 : decode cL_write 18 = .ok (.ireturn, 1) := by decide +kernel
theorem dL_write_19 : decode cL_write 19 = .ok (.astore 5, 2) := by decide +kernel
theorem dL_write_21 : decode cL_write 21 = .ok (.iconst 2, 1) := by decide +kernel
theorem dL_write_22 : decode cL_write 22 = .ok (.ireturn, 1) := by decide +kernel
theorem dL_write_23 : decode cL_write 23 = .ok (.iconst 0, 1) := by decide +kernel
theorem dL_write_24 : decode cL_write 24 = .ok (.ireturn, 1) := by decide +kernel
abbrev hL_write : List (Nat × Nat × Nat × Nat) := [(0, 12, 15, 13), (0, 12, 19, 15)]
theorem wh_L_write : zYh yL_write cL_write 6 (some .int) hL_write 5 := ⟨(zgt_at 742 (by decide +kernel) (by decide +kernel)), (zgt_at 28 (by decide +kernel) (by decide +kernel)), by decide +kernel, by decide +kernel, by decide +kernel⟩
def P_LAW_write (x1 : Int32) (x2 : Int32) (x3 : Int32) (v0 : TT) (o : Nat → Int64) (Q : Int32 → TT → (Nat → Int64) → Prop) : Prop := P_T_write x1 x2 x3 v0 (fun E v => (E = "java/lang/IllegalArgumentException" → Q 1 v o) ∧ (E = "java/lang/IllegalStateException" → Q 2 v o) ∧ ((¬ E = "java/lang/IllegalArgumentException" ∧ ¬ E = "java/lang/IllegalStateException") → False)) (fun r v => Q 0 v (vp_updL o 0 (Int32.toInt64 r)))
set_option maxRecDepth 100000 in
theorem s_LAW_write {l : Launch} {D : zD} {B : Nat} {sa : Nat → Nat} (hfl : l.stackTraces = false) {z : Nat} {G : zG} {b0 b1 : Nat} {x1 : Int32} {x2 : Int32} {x3 : Int32} {v0 : TT} {o : Nat → Int64} {Q : Int32 → TT → (Nat → Int64) → Prop} (h0 : TA b0 v0 G) (h1 : G b1 = some (zla 1 o)) (d01 : b0 + 475 ≤ b1) (h : P_LAW_write x1 x2 x3 v0 o Q) : zSh l D B sa yL_write cL_write 6 (some .int) hL_write 8 189 1 6 [.ref b0, .int x1, .int x2, .int x3, .ref b1] z G (zRi fun r z' G' => ∃ w o', TA b0 w G' ∧ G' b1 = some (zla 1 o') ∧ (∀ x, ¬ (b0 ≤ x ∧ x < b0 + 475) → x ≠ b1 → G' x = G x) ∧ Q r w o') := by
  unfold P_LAW_write at h
  refine z_ofH (by decide +kernel) hfl [some (.ref b0), some (.int x1), some (.int x2), some (.int x3), some (.ref b1), none] rfl (Nat.le_of_ble_eq_true rfl) (fun p e s m args below meth c O hT hret hlk => ?_)
  have O : zO p l s m args c D B sa 6 cL_write RL := O
  refine z_aload O dL_write_0 rfl ?_
  refine z_iconst (v := 0) O dL_write_2 (by decide) ?_
  refine z_aload_n O dL_write_3 rfl rfl ?_
  refine z_iload_n O dL_write_4 rfl rfl ?_
  refine z_iload_n O dL_write_5 rfl rfl ?_
  refine z_iload_n O dL_write_6 rfl rfl ?_
  refine z_callXi (As := [.int x1, .int x2, .int x3]) (st := [.int 0, .ref b1]) O (s_T_write hfl h0 h) wy_X5_write wl_RL_45 dL_write_7 rfl rfl (T_obj h0) ⟨by decide, rfl⟩ ⟨(Nat.le_of_ble_eq_true rfl), (Nat.le_of_ble_eq_true rfl)⟩ (Nat.le_of_ble_eq_true rfl) ⟨(Nat.le_of_ble_eq_true rfl), (Nat.le_of_ble_eq_true rfl)⟩ (fun E z1 G1 hx => ?_) (fun r z1 G1 hq => ?_)
  · obtain ⟨w, k1, k2, hx⟩ := hx
    by_cases e0 : E = "java/lang/IllegalArgumentException"
    · have hc := hx.1 e0
      subst e0
      refine z_catch [] ⟨0, 12, 15, 13⟩ [⟨0, 12, 19, 15⟩] O (hT.trans rfl) (fun z9 hz => absurd hz List.not_mem_nil) (by decide) (by decide) wk_RL_13 (by decide) (fun q9 => ?_)
      refine z_astore (L' := [some (.ref b0), some (.int x1), some (.int x2), some (.int x3), some (.ref b1), some (.ref q9)]) O dL_write_15 (by decide) rfl ?_
      refine z_iconst (v := 1) O dL_write_17 (by decide) ?_
      exact z_iret O hret hlk dL_write_18 (Nat.le_of_ble_eq_true rfl) (Nat.le_of_ble_eq_true rfl) ⟨_, rfl, w, o, k1, (k2 b1 (by omega)).trans h1, (fun x hx _ => k2 x hx), hc⟩
    · skip
      by_cases e1 : E = "java/lang/IllegalStateException"
      · have hc := hx.2.1 e1
        subst e1
        refine z_catch [⟨0, 12, 15, 13⟩] ⟨0, 12, 19, 15⟩ [] O (hT.trans rfl) (fun z9 hz => by cases List.mem_singleton.mp hz; exact Or.inr ⟨by decide, _, wk_RL_13, by decide⟩) (by decide) (by decide) wk_RL_15 (by decide) (fun q9 => ?_)
        refine z_astore (L' := [some (.ref b0), some (.int x1), some (.int x2), some (.int x3), some (.ref b1), some (.ref q9)]) O dL_write_19 (by decide) rfl ?_
        refine z_iconst (v := 2) O dL_write_21 (by decide) ?_
        exact z_iret O hret hlk dL_write_22 (Nat.le_of_ble_eq_true rfl) (Nat.le_of_ble_eq_true rfl) ⟨_, rfl, w, o, k1, (k2 b1 (by omega)).trans h1, (fun x hx _ => k2 x hx), hc⟩
      · exact (hx.2.2 ⟨e0, e1⟩).elim
  · obtain ⟨rfl, w, k1, k2, h⟩ := hq
    refine z_i2l O dL_write_10 ?_
    refine y_last O dL_write_11 ((k2 b1 (by omega)).trans h1) (vp_i (by decide)) (fun G2 hG2 => ?_)
    refine z_goto (tgt := 23) O dL_write_12 (by decide) ?_
    refine z_iconst (v := 0) O dL_write_23 (by decide) ?_
    exact z_iret O hret hlk dL_write_24 (Nat.le_of_ble_eq_true rfl) (Nat.le_of_ble_eq_true rfl) ⟨_, rfl, w, _, TA.eq k1 (fun q g1 g2 => hG2.2 q (by omega)), hG2.1, (fun x hx hx2 => (hG2.2 x hx2).trans (k2 x hx)), h⟩
theorem dL_join_0 : decode cL_join 0 = .ok (.aload 4, 2) := by decide +kernel
theorem dL_join_2 : decode cL_join 2 = .ok (.iconst 0, 1) := by decide +kernel
theorem dL_join_3 : decode cL_join 3 = .ok (.aload_n 0, 1) := by decide +kernel
theorem dL_join_4 : decode cL_join 4 = .ok (.iload_n 1, 1) := by decide +kernel
theorem dL_join_5 : decode cL_join 5 = .ok (.iload_n 2, 1) := by decide +kernel
theorem dL_join_6 : decode cL_join 6 = .ok (.iload_n 3, 1) := by decide +kernel
theorem dL_join_7 : decode cL_join 7 = .ok (.invokevirtual 49, 3) := by decide +kernel
theorem dL_join_10 : decode cL_join 10 = .ok (.i2l, 1) := by decide +kernel
theorem dL_join_11 : decode cL_join 11 = .ok (.lastore, 1) := by decide +kernel
theorem dL_join_12 : decode cL_join 12 = .ok (.goto 11, 3) := by decide +kernel
theorem dL_join_15 : decode cL_join 15 = .ok (.astore 5, 2) := by decide +kernel
theorem dL_join_17 : decode cL_join 17 = .ok (.iconst 1, 1) := by decide +kernel
theorem dL_join_18 : decode cL_join 18 = .ok (.ireturn, 1) := by decide +kernel
theorem dL_join_19 : decode cL_join 19 = .ok (.astore 5, 2) := by decide +kernel
theorem dL_join_21 : decode cL_join 21 = .ok (.iconst 2, 1) := by decide +kernel
theorem dL_join_22 : decode cL_join 22 = .ok (.ireturn, 1) := by decide +kernel
theorem dL_join_23 : decode cL_join 23 = .ok (.iconst 0, 1) := by decide +kernel
theorem dL_join_24 : decode cL_join 24 = .ok (.ireturn, 1) := by decide +kernel
abbrev hL_join : List (Nat × Nat × Nat × Nat) := [(0, 12, 15, 13), (0, 12, 19, 15)]
theorem wh_L_join : zYh yL_join cL_join 6 (some .int) hL_join 5 := ⟨(zgt_at 767 (by decide +kernel) (by decide +kernel)), (zgt_at 28 (by decide +kernel) (by decide +kernel)), by decide +kernel, by decide +kernel, by decide +kernel⟩
def P_LAW_join (x1 : Int32) (x2 : Int32) (x3 : Int32) (v0 : TT) (o : Nat → Int64) (Q : Int32 → TT → (Nat → Int64) → Prop) : Prop := P_T_join x1 x2 x3 v0 (fun E v => (E = "java/lang/IllegalArgumentException" → Q 1 v o) ∧ (E = "java/lang/IllegalStateException" → Q 2 v o) ∧ ((¬ E = "java/lang/IllegalArgumentException" ∧ ¬ E = "java/lang/IllegalStateException") → False)) (fun r v => Q 0 v (vp_updL o 0 (Int32.toInt64 r)))
set_option maxRecDepth 100000 in
theorem s_LAW_join {l : Launch} {D : zD} {B : Nat} {sa : Nat → Nat} (hfl : l.stackTraces = false) {z : Nat} {G : zG} {b0 b1 : Nat} {x1 : Int32} {x2 : Int32} {x3 : Int32} {v0 : TT} {o : Nat → Int64} {Q : Int32 → TT → (Nat → Int64) → Prop} (h0 : TA b0 v0 G) (h1 : G b1 = some (zla 1 o)) (d01 : b0 + 475 ≤ b1) (h : P_LAW_join x1 x2 x3 v0 o Q) : zSh l D B sa yL_join cL_join 6 (some .int) hL_join 8 189 1 6 [.ref b0, .int x1, .int x2, .int x3, .ref b1] z G (zRi fun r z' G' => ∃ w o', TA b0 w G' ∧ G' b1 = some (zla 1 o') ∧ (∀ x, ¬ (b0 ≤ x ∧ x < b0 + 475) → x ≠ b1 → G' x = G x) ∧ Q r w o') := by
  unfold P_LAW_join at h
  refine z_ofH (by decide +kernel) hfl [some (.ref b0), some (.int x1), some (.int x2), some (.int x3), some (.ref b1), none] rfl (Nat.le_of_ble_eq_true rfl) (fun p e s m args below meth c O hT hret hlk => ?_)
  have O : zO p l s m args c D B sa 6 cL_join RL := O
  refine z_aload O dL_join_0 rfl ?_
  refine z_iconst (v := 0) O dL_join_2 (by decide) ?_
  refine z_aload_n O dL_join_3 rfl rfl ?_
  refine z_iload_n O dL_join_4 rfl rfl ?_
  refine z_iload_n O dL_join_5 rfl rfl ?_
  refine z_iload_n O dL_join_6 rfl rfl ?_
  refine z_callXi (As := [.int x1, .int x2, .int x3]) (st := [.int 0, .ref b1]) O (s_T_join hfl h0 h) wy_X5_join wl_RL_49 dL_join_7 rfl rfl (T_obj h0) ⟨by decide, rfl⟩ ⟨(Nat.le_of_ble_eq_true rfl), (Nat.le_of_ble_eq_true rfl)⟩ (Nat.le_of_ble_eq_true rfl) ⟨(Nat.le_of_ble_eq_true rfl), (Nat.le_of_ble_eq_true rfl)⟩ (fun E z1 G1 hx => ?_) (fun r z1 G1 hq => ?_)
  · obtain ⟨w, k1, k2, hx⟩ := hx
    by_cases e0 : E = "java/lang/IllegalArgumentException"
    · have hc := hx.1 e0
      subst e0
      refine z_catch [] ⟨0, 12, 15, 13⟩ [⟨0, 12, 19, 15⟩] O (hT.trans rfl) (fun z9 hz => absurd hz List.not_mem_nil) (by decide) (by decide) wk_RL_13 (by decide) (fun q9 => ?_)
      refine z_astore (L' := [some (.ref b0), some (.int x1), some (.int x2), some (.int x3), some (.ref b1), some (.ref q9)]) O dL_join_15 (by decide) rfl ?_
      refine z_iconst (v := 1) O dL_join_17 (by decide) ?_
      exact z_iret O hret hlk dL_join_18 (Nat.le_of_ble_eq_true rfl) (Nat.le_of_ble_eq_true rfl) ⟨_, rfl, w, o, k1, (k2 b1 (by omega)).trans h1, (fun x hx _ => k2 x hx), hc⟩
    · skip
      by_cases e1 : E = "java/lang/IllegalStateException"
      · have hc := hx.2.1 e1
        subst e1
        refine z_catch [⟨0, 12, 15, 13⟩] ⟨0, 12, 19, 15⟩ [] O (hT.trans rfl) (fun z9 hz => by cases List.mem_singleton.mp hz; exact Or.inr ⟨by decide, _, wk_RL_13, by decide⟩) (by decide) (by decide) wk_RL_15 (by decide) (fun q9 => ?_)
        refine z_astore (L' := [some (.ref b0), some (.int x1), some (.int x2), some (.int x3), some (.ref b1), some (.ref q9)]) O dL_join_19 (by decide) rfl ?_
        refine z_iconst (v := 2) O dL_join_21 (by decide) ?_
        exact z_iret O hret hlk dL_join_22 (Nat.le_of_ble_eq_true rfl) (Nat.le_of_ble_eq_true rfl) ⟨_, rfl, w, o, k1, (k2 b1 (by omega)).trans h1, (fun x hx _ => k2 x hx), hc⟩
      · exact (hx.2.2 ⟨e0, e1⟩).elim
  · obtain ⟨rfl, w, k1, k2, h⟩ := hq
    refine z_i2l O dL_join_10 ?_
    refine y_last O dL_join_11 ((k2 b1 (by omega)).trans h1) (vp_i (by decide)) (fun G2 hG2 => ?_)
    refine z_goto (tgt := 23) O dL_join_12 (by decide) ?_
    refine z_iconst (v := 0) O dL_join_23 (by decide) ?_
    exact z_iret O hret hlk dL_join_24 (Nat.le_of_ble_eq_true rfl) (Nat.le_of_ble_eq_true rfl) ⟨_, rfl, w, _, TA.eq k1 (fun q g1 g2 => hG2.2 q (by omega)), hG2.1, (fun x hx hx2 => (hG2.2 x hx2).trans (k2 x hx)), h⟩
theorem dL_read_0 : decode cL_read 0 = .ok (.aload_n 3, 1) := by decide +kernel
theorem dL_read_1 : decode cL_read 1 = .ok (.iconst 0, 1) := by decide +kernel
theorem dL_read_2 : decode cL_read 2 = .ok (.aload_n 0, 1) := by decide +kernel
theorem dL_read_3 : decode cL_read 3 = .ok (.iload_n 1, 1) := by decide +kernel
theorem dL_read_4 : decode cL_read 4 = .ok (.iload_n 2, 1) := by decide +kernel
theorem dL_read_5 : decode cL_read 5 = .ok (.invokevirtual 53, 3) := by decide +kernel
theorem dL_read_8 : decode cL_read 8 = .ok (.i2l, 1) := by decide +kernel
theorem dL_read_9 : decode cL_read 9 = .ok (.lastore, 1) := by decide +kernel
theorem dL_read_10 : decode cL_read 10 = .ok (.goto 11, 3) := by decide +kernel
theorem dL_read_13 : decode cL_read 13 = .ok (.astore 4, 2) := by decide +kernel
theorem dL_read_15 : decode cL_read 15 = .ok (.iconst 1, 1) := by decide +kernel
theorem dL_read_16 : decode cL_read 16 = .ok (.ireturn, 1) := by decide +kernel
theorem dL_read_17 : decode cL_read 17 = .ok (.astore 4, 2) := by decide +kernel
theorem dL_read_19 : decode cL_read 19 = .ok (.iconst 2, 1) := by decide +kernel
theorem dL_read_20 : decode cL_read 20 = .ok (.ireturn, 1) := by decide +kernel
theorem dL_read_21 : decode cL_read 21 = .ok (.iconst 0, 1) := by decide +kernel
theorem dL_read_22 : decode cL_read 22 = .ok (.ireturn, 1) := by decide +kernel
abbrev hL_read : List (Nat × Nat × Nat × Nat) := [(0, 10, 13, 28), (0, 10, 17, 13)]
theorem wh_L_read : zYh yL_read cL_read 5 (some .int) hL_read 4 := ⟨(zgt_at 775 (by decide +kernel) (by decide +kernel)), (zgt_at 28 (by decide +kernel) (by decide +kernel)), by decide +kernel, by decide +kernel, by decide +kernel⟩
def P_LAW_read (x1 : Int32) (x2 : Int32) (v0 : TT) (o : Nat → Int64) (Q : Int32 → TT → (Nat → Int64) → Prop) : Prop := P_T_read x1 x2 v0 (fun E v => (E = "java/lang/IndexOutOfBoundsException" → Q 1 v o) ∧ (E = "java/lang/IllegalArgumentException" → Q 2 v o) ∧ ((¬ E = "java/lang/IndexOutOfBoundsException" ∧ ¬ E = "java/lang/IllegalArgumentException") → False)) (fun r v => Q 0 v (vp_updL o 0 (Int32.toInt64 r)))
set_option maxRecDepth 100000 in
theorem s_LAW_read {l : Launch} {D : zD} {B : Nat} {sa : Nat → Nat} (hfl : l.stackTraces = false) {z : Nat} {G : zG} {b0 b1 : Nat} {x1 : Int32} {x2 : Int32} {v0 : TT} {o : Nat → Int64} {Q : Int32 → TT → (Nat → Int64) → Prop} (h0 : TA b0 v0 G) (h1 : G b1 = some (zla 1 o)) (d01 : b0 + 475 ≤ b1) (h : P_LAW_read x1 x2 v0 o Q) : zSh l D B sa yL_read cL_read 5 (some .int) hL_read 8 188 1 6 [.ref b0, .int x1, .int x2, .ref b1] z G (zRi fun r z' G' => ∃ w o', TA b0 w G' ∧ G' b1 = some (zla 1 o') ∧ (∀ x, ¬ (b0 ≤ x ∧ x < b0 + 475) → x ≠ b1 → G' x = G x) ∧ Q r w o') := by
  unfold P_LAW_read at h
  refine z_ofH (by decide +kernel) hfl [some (.ref b0), some (.int x1), some (.int x2), some (.ref b1), none] rfl (Nat.le_of_ble_eq_true rfl) (fun p e s m args below meth c O hT hret hlk => ?_)
  have O : zO p l s m args c D B sa 5 cL_read RL := O
  refine z_aload_n O dL_read_0 rfl rfl ?_
  refine z_iconst (v := 0) O dL_read_1 (by decide) ?_
  refine z_aload_n O dL_read_2 rfl rfl ?_
  refine z_iload_n O dL_read_3 rfl rfl ?_
  refine z_iload_n O dL_read_4 rfl rfl ?_
  refine z_callXi (As := [.int x1, .int x2]) (st := [.int 0, .ref b1]) O (s_T_read hfl h0 h) wy_X5_read wl_RL_53 dL_read_5 rfl rfl (T_obj h0) ⟨by decide, rfl⟩ ⟨(Nat.le_of_ble_eq_true rfl), (Nat.le_of_ble_eq_true rfl)⟩ (Nat.le_of_ble_eq_true rfl) ⟨(Nat.le_of_ble_eq_true rfl), (Nat.le_of_ble_eq_true rfl)⟩ (fun E z1 G1 hx => ?_) (fun r z1 G1 hq => ?_)
  · obtain ⟨w, k1, k2, hx⟩ := hx
    by_cases e0 : E = "java/lang/IndexOutOfBoundsException"
    · have hc := hx.1 e0
      subst e0
      refine z_catch [] ⟨0, 10, 13, 28⟩ [⟨0, 10, 17, 13⟩] O (hT.trans rfl) (fun z9 hz => absurd hz List.not_mem_nil) (by decide) (by decide) wk_RL_28 (by decide) (fun q9 => ?_)
      refine z_astore (L' := [some (.ref b0), some (.int x1), some (.int x2), some (.ref b1), some (.ref q9)]) O dL_read_13 (by decide) rfl ?_
      refine z_iconst (v := 1) O dL_read_15 (by decide) ?_
      exact z_iret O hret hlk dL_read_16 (Nat.le_of_ble_eq_true rfl) (Nat.le_of_ble_eq_true rfl) ⟨_, rfl, w, o, k1, (k2 b1 (by omega)).trans h1, (fun x hx _ => k2 x hx), hc⟩
    · skip
      by_cases e1 : E = "java/lang/IllegalArgumentException"
      · have hc := hx.2.1 e1
        subst e1
        refine z_catch [⟨0, 10, 13, 28⟩] ⟨0, 10, 17, 13⟩ [] O (hT.trans rfl) (fun z9 hz => by cases List.mem_singleton.mp hz; exact Or.inr ⟨by decide, _, wk_RL_28, by decide⟩) (by decide) (by decide) wk_RL_13 (by decide) (fun q9 => ?_)
        refine z_astore (L' := [some (.ref b0), some (.int x1), some (.int x2), some (.ref b1), some (.ref q9)]) O dL_read_17 (by decide) rfl ?_
        refine z_iconst (v := 2) O dL_read_19 (by decide) ?_
        exact z_iret O hret hlk dL_read_20 (Nat.le_of_ble_eq_true rfl) (Nat.le_of_ble_eq_true rfl) ⟨_, rfl, w, o, k1, (k2 b1 (by omega)).trans h1, (fun x hx _ => k2 x hx), hc⟩
      · exact (hx.2.2 ⟨e0, e1⟩).elim
  · obtain ⟨rfl, w, k1, k2, h⟩ := hq
    refine z_i2l O dL_read_8 ?_
    refine y_last O dL_read_9 ((k2 b1 (by omega)).trans h1) (vp_i (by decide)) (fun G2 hG2 => ?_)
    refine z_goto (tgt := 21) O dL_read_10 (by decide) ?_
    refine z_iconst (v := 0) O dL_read_21 (by decide) ?_
    exact z_iret O hret hlk dL_read_22 (Nat.le_of_ble_eq_true rfl) (Nat.le_of_ble_eq_true rfl) ⟨_, rfl, w, _, TA.eq k1 (fun q g1 g2 => hG2.2 q (by omega)), hG2.1, (fun x hx hx2 => (hG2.2 x hx2).trans (k2 x hx)), h⟩
theorem dL_leave_0 : decode cL_leave 0 = .ok (.aload_n 2, 1) := by decide +kernel
theorem dL_leave_1 : decode cL_leave 1 = .ok (.iconst 0, 1) := by decide +kernel
theorem dL_leave_2 : decode cL_leave 2 = .ok (.aload_n 0, 1) := by decide +kernel
theorem dL_leave_3 : decode cL_leave 3 = .ok (.iload_n 1, 1) := by decide +kernel
theorem dL_leave_4 : decode cL_leave 4 = .ok (.invokevirtual 56, 3) := by decide +kernel
theorem dL_leave_7 : decode cL_leave 7 = .ok (.i2l, 1) := by decide +kernel
theorem dL_leave_8 : decode cL_leave 8 = .ok (.lastore, 1) := by decide +kernel
theorem dL_leave_9 : decode cL_leave 9 = .ok (.goto 6, 3) := by decide +kernel
theorem dL_leave_12 : decode cL_leave 12 = .ok (.astore_n 3, 1) := by decide +kernel
theorem dL_leave_13 : decode cL_leave 13 = .ok (.iconst 1, 1) := by decide +kernel
theorem dL_leave_14 : decode cL_leave 14 = .ok (.ireturn, 1) := by decide +kernel
theorem dL_leave_15 : decode cL_leave 15 = .ok (.iconst 0, 1) := by decide +kernel
theorem dL_leave_16 : decode cL_leave 16 = .ok (.ireturn, 1) := by decide +kernel
abbrev hL_leave : List (Nat × Nat × Nat × Nat) := [(0, 9, 12, 28)]
theorem wh_L_leave : zYh yL_leave cL_leave 4 (some .int) hL_leave 3 := ⟨(zgt_at 782 (by decide +kernel) (by decide +kernel)), (zgt_at 28 (by decide +kernel) (by decide +kernel)), by decide +kernel, by decide +kernel, by decide +kernel⟩
def P_LAW_leave (x1 : Int32) (v0 : TT) (o : Nat → Int64) (Q : Int32 → TT → (Nat → Int64) → Prop) : Prop := P_T_leave x1 v0 (fun E v => (E = "java/lang/IndexOutOfBoundsException" → Q 1 v o) ∧ ((¬ E = "java/lang/IndexOutOfBoundsException") → False)) (fun r v => Q 0 v (vp_updL o 0 (Int32.toInt64 r)))
set_option maxRecDepth 100000 in
theorem s_LAW_leave {l : Launch} {D : zD} {B : Nat} {sa : Nat → Nat} (hfl : l.stackTraces = false) {z : Nat} {G : zG} {b0 b1 : Nat} {x1 : Int32} {v0 : TT} {o : Nat → Int64} {Q : Int32 → TT → (Nat → Int64) → Prop} (h0 : TA b0 v0 G) (h1 : G b1 = some (zla 1 o)) (d01 : b0 + 475 ≤ b1) (h : P_LAW_leave x1 v0 o Q) : zSh l D B sa yL_leave cL_leave 4 (some .int) hL_leave 8 187 1 6 [.ref b0, .int x1, .ref b1] z G (zRi fun r z' G' => ∃ w o', TA b0 w G' ∧ G' b1 = some (zla 1 o') ∧ (∀ x, ¬ (b0 ≤ x ∧ x < b0 + 475) → x ≠ b1 → G' x = G x) ∧ Q r w o') := by
  unfold P_LAW_leave at h
  refine z_ofH (by decide +kernel) hfl [some (.ref b0), some (.int x1), some (.ref b1), none] rfl (Nat.le_of_ble_eq_true rfl) (fun p e s m args below meth c O hT hret hlk => ?_)
  have O : zO p l s m args c D B sa 4 cL_leave RL := O
  refine z_aload_n O dL_leave_0 rfl rfl ?_
  refine z_iconst (v := 0) O dL_leave_1 (by decide) ?_
  refine z_aload_n O dL_leave_2 rfl rfl ?_
  refine z_iload_n O dL_leave_3 rfl rfl ?_
  refine z_callXi (As := [.int x1]) (st := [.int 0, .ref b1]) O (s_T_leave hfl h0 h) wy_X5_leave wl_RL_56 dL_leave_4 rfl rfl (T_obj h0) ⟨by decide, rfl⟩ ⟨(Nat.le_of_ble_eq_true rfl), (Nat.le_of_ble_eq_true rfl)⟩ (Nat.le_of_ble_eq_true rfl) ⟨(Nat.le_of_ble_eq_true rfl), (Nat.le_of_ble_eq_true rfl)⟩ (fun E z1 G1 hx => ?_) (fun r z1 G1 hq => ?_)
  · obtain ⟨w, k1, k2, hx⟩ := hx
    by_cases e0 : E = "java/lang/IndexOutOfBoundsException"
    · have hc := hx.1 e0
      subst e0
      refine z_catch [] ⟨0, 9, 12, 28⟩ [] O (hT.trans rfl) (fun z9 hz => absurd hz List.not_mem_nil) (by decide) (by decide) wk_RL_28 (by decide) (fun q9 => ?_)
      refine z_astore_n (L' := [some (.ref b0), some (.int x1), some (.ref b1), some (.ref q9)]) O dL_leave_12 rfl (by decide) rfl ?_
      refine z_iconst (v := 1) O dL_leave_13 (by decide) ?_
      exact z_iret O hret hlk dL_leave_14 (Nat.le_of_ble_eq_true rfl) (Nat.le_of_ble_eq_true rfl) ⟨_, rfl, w, o, k1, (k2 b1 (by omega)).trans h1, (fun x hx _ => k2 x hx), hc⟩
    · exact (hx.2 e0).elim
  · obtain ⟨rfl, w, k1, k2, h⟩ := hq
    refine z_i2l O dL_leave_7 ?_
    refine y_last O dL_leave_8 ((k2 b1 (by omega)).trans h1) (vp_i (by decide)) (fun G2 hG2 => ?_)
    refine z_goto (tgt := 15) O dL_leave_9 (by decide) ?_
    refine z_iconst (v := 0) O dL_leave_15 (by decide) ?_
    exact z_iret O hret hlk dL_leave_16 (Nat.le_of_ble_eq_true rfl) (Nat.le_of_ble_eq_true rfl) ⟨_, rfl, w, _, TA.eq k1 (fun q g1 g2 => hG2.2 q (by omega)), hG2.1, (fun x hx hx2 => (hG2.2 x hx2).trans (k2 x hx)), h⟩
theorem dL_hold_0 : decode cL_hold 0 = .ok (.aload_n 3, 1) := by decide +kernel
theorem dL_hold_1 : decode cL_hold 1 = .ok (.iconst 0, 1) := by decide +kernel
theorem dL_hold_2 : decode cL_hold 2 = .ok (.aload_n 0, 1) := by decide +kernel
theorem dL_hold_3 : decode cL_hold 3 = .ok (.iload_n 1, 1) := by decide +kernel
theorem dL_hold_4 : decode cL_hold 4 = .ok (.iload_n 2, 1) := by decide +kernel
theorem dL_hold_5 : decode cL_hold 5 = .ok (.invokevirtual 59, 3) := by decide +kernel
theorem dL_hold_8 : decode cL_hold 8 = .ok (.i2l, 1) := by decide +kernel
theorem dL_hold_9 : decode cL_hold 9 = .ok (.lastore, 1) := by decide +kernel
theorem dL_hold_10 : decode cL_hold 10 = .ok (.goto 11, 3) := by decide +kernel
theorem dL_hold_13 : decode cL_hold 13 = .ok (.astore 4, 2) := by decide +kernel
theorem dL_hold_15 : decode cL_hold 15 = .ok (.iconst 1, 1) := by decide +kernel
theorem dL_hold_16 : decode cL_hold 16 = .ok (.ireturn, 1) := by decide +kernel
theorem dL_hold_17 : decode cL_hold 17 = .ok (.astore 4, 2) := by decide +kernel
theorem dL_hold_19 : decode cL_hold 19 = .ok (.iconst 2, 1) := by decide +kernel
theorem dL_hold_20 : decode cL_hold 20 = .ok (.ireturn, 1) := by decide +kernel
theorem dL_hold_21 : decode cL_hold 21 = .ok (.iconst 0, 1) := by decide +kernel
theorem dL_hold_22 : decode cL_hold 22 = .ok (.ireturn, 1) := by decide +kernel
abbrev hL_hold : List (Nat × Nat × Nat × Nat) := [(0, 10, 13, 28), (0, 10, 17, 15)]
theorem wh_L_hold : zYh yL_hold cL_hold 5 (some .int) hL_hold 4 := ⟨(zgt_at 789 (by decide +kernel) (by decide +kernel)), (zgt_at 28 (by decide +kernel) (by decide +kernel)), by decide +kernel, by decide +kernel, by decide +kernel⟩
def P_LAW_hold (x1 : Int32) (x2 : Int32) (v0 : TT) (o : Nat → Int64) (Q : Int32 → TT → (Nat → Int64) → Prop) : Prop := P_T_hold x1 x2 v0 (fun E v => (E = "java/lang/IndexOutOfBoundsException" → Q 1 v o) ∧ (E = "java/lang/IllegalStateException" → Q 2 v o) ∧ ((¬ E = "java/lang/IndexOutOfBoundsException" ∧ ¬ E = "java/lang/IllegalStateException") → False)) (fun r v => Q 0 v (vp_updL o 0 (Int32.toInt64 r)))
set_option maxRecDepth 100000 in
theorem s_LAW_hold {l : Launch} {D : zD} {B : Nat} {sa : Nat → Nat} (hfl : l.stackTraces = false) {z : Nat} {G : zG} {b0 b1 : Nat} {x1 : Int32} {x2 : Int32} {v0 : TT} {o : Nat → Int64} {Q : Int32 → TT → (Nat → Int64) → Prop} (h0 : TA b0 v0 G) (h1 : G b1 = some (zla 1 o)) (d01 : b0 + 475 ≤ b1) (h : P_LAW_hold x1 x2 v0 o Q) : zSh l D B sa yL_hold cL_hold 5 (some .int) hL_hold 8 188 1 6 [.ref b0, .int x1, .int x2, .ref b1] z G (zRi fun r z' G' => ∃ w o', TA b0 w G' ∧ G' b1 = some (zla 1 o') ∧ (∀ x, ¬ (b0 ≤ x ∧ x < b0 + 475) → x ≠ b1 → G' x = G x) ∧ Q r w o') := by
  unfold P_LAW_hold at h
  refine z_ofH (by decide +kernel) hfl [some (.ref b0), some (.int x1), some (.int x2), some (.ref b1), none] rfl (Nat.le_of_ble_eq_true rfl) (fun p e s m args below meth c O hT hret hlk => ?_)
  have O : zO p l s m args c D B sa 5 cL_hold RL := O
  refine z_aload_n O dL_hold_0 rfl rfl ?_
  refine z_iconst (v := 0) O dL_hold_1 (by decide) ?_
  refine z_aload_n O dL_hold_2 rfl rfl ?_
  refine z_iload_n O dL_hold_3 rfl rfl ?_
  refine z_iload_n O dL_hold_4 rfl rfl ?_
  refine z_callXi (As := [.int x1, .int x2]) (st := [.int 0, .ref b1]) O (s_T_hold hfl h0 h) wy_X5_hold wl_RL_59 dL_hold_5 rfl rfl (T_obj h0) ⟨by decide, rfl⟩ ⟨(Nat.le_of_ble_eq_true rfl), (Nat.le_of_ble_eq_true rfl)⟩ (Nat.le_of_ble_eq_true rfl) ⟨(Nat.le_of_ble_eq_true rfl), (Nat.le_of_ble_eq_true rfl)⟩ (fun E z1 G1 hx => ?_) (fun r z1 G1 hq => ?_)
  · obtain ⟨w, k1, k2, hx⟩ := hx
    by_cases e0 : E = "java/lang/IndexOutOfBoundsException"
    · have hc := hx.1 e0
      subst e0
      refine z_catch [] ⟨0, 10, 13, 28⟩ [⟨0, 10, 17, 15⟩] O (hT.trans rfl) (fun z9 hz => absurd hz List.not_mem_nil) (by decide) (by decide) wk_RL_28 (by decide) (fun q9 => ?_)
      refine z_astore (L' := [some (.ref b0), some (.int x1), some (.int x2), some (.ref b1), some (.ref q9)]) O dL_hold_13 (by decide) rfl ?_
      refine z_iconst (v := 1) O dL_hold_15 (by decide) ?_
      exact z_iret O hret hlk dL_hold_16 (Nat.le_of_ble_eq_true rfl) (Nat.le_of_ble_eq_true rfl) ⟨_, rfl, w, o, k1, (k2 b1 (by omega)).trans h1, (fun x hx _ => k2 x hx), hc⟩
    · skip
      by_cases e1 : E = "java/lang/IllegalStateException"
      · have hc := hx.2.1 e1
        subst e1
        refine z_catch [⟨0, 10, 13, 28⟩] ⟨0, 10, 17, 15⟩ [] O (hT.trans rfl) (fun z9 hz => by cases List.mem_singleton.mp hz; exact Or.inr ⟨by decide, _, wk_RL_28, by decide⟩) (by decide) (by decide) wk_RL_15 (by decide) (fun q9 => ?_)
        refine z_astore (L' := [some (.ref b0), some (.int x1), some (.int x2), some (.ref b1), some (.ref q9)]) O dL_hold_17 (by decide) rfl ?_
        refine z_iconst (v := 2) O dL_hold_19 (by decide) ?_
        exact z_iret O hret hlk dL_hold_20 (Nat.le_of_ble_eq_true rfl) (Nat.le_of_ble_eq_true rfl) ⟨_, rfl, w, o, k1, (k2 b1 (by omega)).trans h1, (fun x hx _ => k2 x hx), hc⟩
      · exact (hx.2.2 ⟨e0, e1⟩).elim
  · obtain ⟨rfl, w, k1, k2, h⟩ := hq
    refine z_i2l O dL_hold_8 ?_
    refine y_last O dL_hold_9 ((k2 b1 (by omega)).trans h1) (vp_i (by decide)) (fun G2 hG2 => ?_)
    refine z_goto (tgt := 21) O dL_hold_10 (by decide) ?_
    refine z_iconst (v := 0) O dL_hold_21 (by decide) ?_
    exact z_iret O hret hlk dL_hold_22 (Nat.le_of_ble_eq_true rfl) (Nat.le_of_ble_eq_true rfl) ⟨_, rfl, w, _, TA.eq k1 (fun q g1 g2 => hG2.2 q (by omega)), hG2.1, (fun x hx hx2 => (hG2.2 x hx2).trans (k2 x hx)), h⟩
theorem dL_set_0 : decode cL_set 0 = .ok (.aload_n 3, 1) := by decide +kernel
theorem dL_set_1 : decode cL_set 1 = .ok (.iconst 0, 1) := by decide +kernel
theorem dL_set_2 : decode cL_set 2 = .ok (.aload_n 0, 1) := by decide +kernel
theorem dL_set_3 : decode cL_set 3 = .ok (.iload_n 1, 1) := by decide +kernel
theorem dL_set_4 : decode cL_set 4 = .ok (.iload_n 2, 1) := by decide +kernel
theorem dL_set_5 : decode cL_set 5 = .ok (.invokevirtual 63, 3) := by decide +kernel
theorem dL_set_8 : decode cL_set 8 = .ok (.i2l, 1) := by decide +kernel
theorem dL_set_9 : decode cL_set 9 = .ok (.lastore, 1) := by decide +kernel
theorem dL_set_10 : decode cL_set 10 = .ok (.goto 7, 3) := by decide +kernel
theorem dL_set_13 : decode cL_set 13 = .ok (.astore 4, 2) := by decide +kernel
theorem dL_set_15 : decode cL_set 15 = .ok (.iconst 1, 1) := by decide +kernel
theorem dL_set_16 : decode cL_set 16 = .ok (.ireturn, 1) := by decide +kernel
theorem dL_set_17 : decode cL_set 17 = .ok (.iconst 0, 1) := by decide +kernel
theorem dL_set_18 : decode cL_set 18 = .ok (.ireturn, 1) := by decide +kernel
abbrev hL_set : List (Nat × Nat × Nat × Nat) := [(0, 10, 13, 13)]
theorem wh_L_set : zYh yL_set cL_set 5 (some .int) hL_set 4 := ⟨(zgt_at 796 (by decide +kernel) (by decide +kernel)), (zgt_at 28 (by decide +kernel) (by decide +kernel)), by decide +kernel, by decide +kernel, by decide +kernel⟩
def P_LAW_set (x1 : Int32) (x2 : Int32) (v0 : TT) (o : Nat → Int64) (Q : Int32 → TT → (Nat → Int64) → Prop) : Prop := P_T_set x1 x2 v0 (fun E v => (E = "java/lang/IllegalArgumentException" → Q 1 v o) ∧ ((¬ E = "java/lang/IllegalArgumentException") → False)) (fun r v => Q 0 v (vp_updL o 0 (Int32.toInt64 r)))
set_option maxRecDepth 100000 in
theorem s_LAW_set {l : Launch} {D : zD} {B : Nat} {sa : Nat → Nat} (hfl : l.stackTraces = false) {z : Nat} {G : zG} {b0 b1 : Nat} {x1 : Int32} {x2 : Int32} {v0 : TT} {o : Nat → Int64} {Q : Int32 → TT → (Nat → Int64) → Prop} (h0 : TA b0 v0 G) (h1 : G b1 = some (zla 1 o)) (d01 : b0 + 475 ≤ b1) (h : P_LAW_set x1 x2 v0 o Q) : zSh l D B sa yL_set cL_set 5 (some .int) hL_set 8 188 1 6 [.ref b0, .int x1, .int x2, .ref b1] z G (zRi fun r z' G' => ∃ w o', TA b0 w G' ∧ G' b1 = some (zla 1 o') ∧ (∀ x, ¬ (b0 ≤ x ∧ x < b0 + 475) → x ≠ b1 → G' x = G x) ∧ Q r w o') := by
  unfold P_LAW_set at h
  refine z_ofH (by decide +kernel) hfl [some (.ref b0), some (.int x1), some (.int x2), some (.ref b1), none] rfl (Nat.le_of_ble_eq_true rfl) (fun p e s m args below meth c O hT hret hlk => ?_)
  have O : zO p l s m args c D B sa 5 cL_set RL := O
  refine z_aload_n O dL_set_0 rfl rfl ?_
  refine z_iconst (v := 0) O dL_set_1 (by decide) ?_
  refine z_aload_n O dL_set_2 rfl rfl ?_
  refine z_iload_n O dL_set_3 rfl rfl ?_
  refine z_iload_n O dL_set_4 rfl rfl ?_
  refine z_callXi (As := [.int x1, .int x2]) (st := [.int 0, .ref b1]) O (s_T_set hfl h0 h) wy_X5_set wl_RL_63 dL_set_5 rfl rfl (T_obj h0) ⟨by decide, rfl⟩ ⟨(Nat.le_of_ble_eq_true rfl), (Nat.le_of_ble_eq_true rfl)⟩ (Nat.le_of_ble_eq_true rfl) ⟨(Nat.le_of_ble_eq_true rfl), (Nat.le_of_ble_eq_true rfl)⟩ (fun E z1 G1 hx => ?_) (fun r z1 G1 hq => ?_)
  · obtain ⟨w, k1, k2, hx⟩ := hx
    by_cases e0 : E = "java/lang/IllegalArgumentException"
    · have hc := hx.1 e0
      subst e0
      refine z_catch [] ⟨0, 10, 13, 13⟩ [] O (hT.trans rfl) (fun z9 hz => absurd hz List.not_mem_nil) (by decide) (by decide) wk_RL_13 (by decide) (fun q9 => ?_)
      refine z_astore (L' := [some (.ref b0), some (.int x1), some (.int x2), some (.ref b1), some (.ref q9)]) O dL_set_13 (by decide) rfl ?_
      refine z_iconst (v := 1) O dL_set_15 (by decide) ?_
      exact z_iret O hret hlk dL_set_16 (Nat.le_of_ble_eq_true rfl) (Nat.le_of_ble_eq_true rfl) ⟨_, rfl, w, o, k1, (k2 b1 (by omega)).trans h1, (fun x hx _ => k2 x hx), hc⟩
    · exact (hx.2 e0).elim
  · obtain ⟨rfl, w, k1, k2, h⟩ := hq
    refine z_i2l O dL_set_8 ?_
    refine y_last O dL_set_9 ((k2 b1 (by omega)).trans h1) (vp_i (by decide)) (fun G2 hG2 => ?_)
    refine z_goto (tgt := 17) O dL_set_10 (by decide) ?_
    refine z_iconst (v := 0) O dL_set_17 (by decide) ?_
    exact z_iret O hret hlk dL_set_18 (Nat.le_of_ble_eq_true rfl) (Nat.le_of_ble_eq_true rfl) ⟨_, rfl, w, _, TA.eq k1 (fun q g1 g2 => hG2.2 q (by omega)), hG2.1, (fun x hx hx2 => (hG2.2 x hx2).trans (k2 x hx)), h⟩
theorem dL_ticks_0 : decode cL_ticks 0 = .ok (.aload_n 2, 1) := by decide +kernel
theorem dL_ticks_1 : decode cL_ticks 1 = .ok (.iconst 0, 1) := by decide +kernel
theorem dL_ticks_2 : decode cL_ticks 2 = .ok (.aload_n 0, 1) := by decide +kernel
theorem dL_ticks_3 : decode cL_ticks 3 = .ok (.iload_n 1, 1) := by decide +kernel
theorem dL_ticks_4 : decode cL_ticks 4 = .ok (.invokevirtual 66, 3) := by decide +kernel
theorem dL_ticks_7 : decode cL_ticks 7 = .ok (.i2l, 1) := by decide +kernel
theorem dL_ticks_8 : decode cL_ticks 8 = .ok (.lastore, 1) := by decide +kernel
theorem dL_ticks_9 : decode cL_ticks 9 = .ok (.goto 6, 3) := by decide +kernel
theorem dL_ticks_12 : decode cL_ticks 12 = .ok (.astore_n 3, 1) := by decide +kernel
theorem dL_ticks_13 : decode cL_ticks 13 = .ok (.iconst 1, 1) := by decide +kernel
theorem dL_ticks_14 : decode cL_ticks 14 = .ok (.ireturn, 1) := by decide +kernel
theorem dL_ticks_15 : decode cL_ticks 15 = .ok (.iconst 0, 1) := by decide +kernel
theorem dL_ticks_16 : decode cL_ticks 16 = .ok (.ireturn, 1) := by decide +kernel
abbrev hL_ticks : List (Nat × Nat × Nat × Nat) := [(0, 9, 12, 13)]
theorem wh_L_ticks : zYh yL_ticks cL_ticks 4 (some .int) hL_ticks 3 := ⟨(zgt_at 803 (by decide +kernel) (by decide +kernel)), (zgt_at 28 (by decide +kernel) (by decide +kernel)), by decide +kernel, by decide +kernel, by decide +kernel⟩
def P_LAW_ticks (x1 : Int32) (v0 : TT) (o : Nat → Int64) (Q : Int32 → TT → (Nat → Int64) → Prop) : Prop := P_T_ticks x1 v0 (fun E v => (E = "java/lang/IllegalArgumentException" → Q 1 v o) ∧ ((¬ E = "java/lang/IllegalArgumentException") → False)) (fun r v => Q 0 v (vp_updL o 0 (Int32.toInt64 r)))
set_option maxRecDepth 100000 in
theorem s_LAW_ticks {l : Launch} {D : zD} {B : Nat} {sa : Nat → Nat} (hfl : l.stackTraces = false) {z : Nat} {G : zG} {b0 b1 : Nat} {x1 : Int32} {v0 : TT} {o : Nat → Int64} {Q : Int32 → TT → (Nat → Int64) → Prop} (h0 : TA b0 v0 G) (h1 : G b1 = some (zla 1 o)) (d01 : b0 + 475 ≤ b1) (h : P_LAW_ticks x1 v0 o Q) : zSh l D B sa yL_ticks cL_ticks 4 (some .int) hL_ticks 8 187 1 6 [.ref b0, .int x1, .ref b1] z G (zRi fun r z' G' => ∃ w o', TA b0 w G' ∧ G' b1 = some (zla 1 o') ∧ (∀ x, ¬ (b0 ≤ x ∧ x < b0 + 475) → x ≠ b1 → G' x = G x) ∧ Q r w o') := by
  unfold P_LAW_ticks at h
  refine z_ofH (by decide +kernel) hfl [some (.ref b0), some (.int x1), some (.ref b1), none] rfl (Nat.le_of_ble_eq_true rfl) (fun p e s m args below meth c O hT hret hlk => ?_)
  have O : zO p l s m args c D B sa 4 cL_ticks RL := O
  refine z_aload_n O dL_ticks_0 rfl rfl ?_
  refine z_iconst (v := 0) O dL_ticks_1 (by decide) ?_
  refine z_aload_n O dL_ticks_2 rfl rfl ?_
  refine z_iload_n O dL_ticks_3 rfl rfl ?_
  refine z_callXi (As := [.int x1]) (st := [.int 0, .ref b1]) O (s_T_ticks hfl h0 h) wy_X5_ticks wl_RL_66 dL_ticks_4 rfl rfl (T_obj h0) ⟨by decide, rfl⟩ ⟨(Nat.le_of_ble_eq_true rfl), (Nat.le_of_ble_eq_true rfl)⟩ (Nat.le_of_ble_eq_true rfl) ⟨(Nat.le_of_ble_eq_true rfl), (Nat.le_of_ble_eq_true rfl)⟩ (fun E z1 G1 hx => ?_) (fun r z1 G1 hq => ?_)
  · obtain ⟨w, k1, k2, hx⟩ := hx
    by_cases e0 : E = "java/lang/IllegalArgumentException"
    · have hc := hx.1 e0
      subst e0
      refine z_catch [] ⟨0, 9, 12, 13⟩ [] O (hT.trans rfl) (fun z9 hz => absurd hz List.not_mem_nil) (by decide) (by decide) wk_RL_13 (by decide) (fun q9 => ?_)
      refine z_astore_n (L' := [some (.ref b0), some (.int x1), some (.ref b1), some (.ref q9)]) O dL_ticks_12 rfl (by decide) rfl ?_
      refine z_iconst (v := 1) O dL_ticks_13 (by decide) ?_
      exact z_iret O hret hlk dL_ticks_14 (Nat.le_of_ble_eq_true rfl) (Nat.le_of_ble_eq_true rfl) ⟨_, rfl, w, o, k1, (k2 b1 (by omega)).trans h1, (fun x hx _ => k2 x hx), hc⟩
    · exact (hx.2 e0).elim
  · obtain ⟨rfl, w, k1, k2, h⟩ := hq
    refine z_i2l O dL_ticks_7 ?_
    refine y_last O dL_ticks_8 ((k2 b1 (by omega)).trans h1) (vp_i (by decide)) (fun G2 hG2 => ?_)
    refine z_goto (tgt := 15) O dL_ticks_9 (by decide) ?_
    refine z_iconst (v := 0) O dL_ticks_15 (by decide) ?_
    exact z_iret O hret hlk dL_ticks_16 (Nat.le_of_ble_eq_true rfl) (Nat.le_of_ble_eq_true rfl) ⟨_, rfl, w, _, TA.eq k1 (fun q g1 g2 => hG2.2 q (by omega)), hG2.1, (fun x hx hx2 => (hG2.2 x hx2).trans (k2 x hx)), h⟩
theorem dL_undo_0 : decode cL_undo 0 = .ok (.aload_n 1, 1) := by decide +kernel
theorem dL_undo_1 : decode cL_undo 1 = .ok (.iconst 0, 1) := by decide +kernel
theorem dL_undo_2 : decode cL_undo 2 = .ok (.aload_n 0, 1) := by decide +kernel
theorem dL_undo_3 : decode cL_undo 3 = .ok (.invokevirtual 69, 3) := by decide +kernel
theorem dL_undo_6 : decode cL_undo 6 = .ok (.i2l, 1) := by decide +kernel
theorem dL_undo_7 : decode cL_undo 7 = .ok (.lastore, 1) := by decide +kernel
theorem dL_undo_8 : decode cL_undo 8 = .ok (.goto 6, 3) := by decide +kernel
theorem dL_undo_11 : decode cL_undo 11 = .ok (.astore_n 2, 1) := by decide +kernel
theorem dL_undo_12 : decode cL_undo 12 = .ok (.iconst 1, 1) := by decide +kernel
theorem dL_undo_13 : decode cL_undo 13 = .ok (.ireturn, 1) := by decide +kernel
theorem dL_undo_14 : decode cL_undo 14 = .ok (.iconst 0, 1) := by decide +kernel
theorem dL_undo_15 : decode cL_undo 15 = .ok (.ireturn, 1) := by decide +kernel
abbrev hL_undo : List (Nat × Nat × Nat × Nat) := [(0, 8, 11, 15)]
theorem wh_L_undo : zYh yL_undo cL_undo 3 (some .int) hL_undo 2 := ⟨(zgt_at 810 (by decide +kernel) (by decide +kernel)), (zgt_at 28 (by decide +kernel) (by decide +kernel)), by decide +kernel, by decide +kernel, by decide +kernel⟩
def P_LAW_undo  (v0 : TT) (o : Nat → Int64) (Q : Int32 → TT → (Nat → Int64) → Prop) : Prop := P_T_undo  v0 (fun E v => (E = "java/lang/IllegalStateException" → Q 1 v o) ∧ ((¬ E = "java/lang/IllegalStateException") → False)) (fun r v => Q 0 v (vp_updL o 0 (Int32.toInt64 r)))
set_option maxRecDepth 100000 in
theorem s_LAW_undo {l : Launch} {D : zD} {B : Nat} {sa : Nat → Nat} (hfl : l.stackTraces = false) {z : Nat} {G : zG} {b0 b1 : Nat}  {v0 : TT} {o : Nat → Int64} {Q : Int32 → TT → (Nat → Int64) → Prop} (h0 : TA b0 v0 G) (h1 : G b1 = some (zla 1 o)) (d01 : b0 + 475 ≤ b1) (h : P_LAW_undo  v0 o Q) : zSh l D B sa yL_undo cL_undo 3 (some .int) hL_undo 7 159 1 6 [.ref b0, .ref b1] z G (zRi fun r z' G' => ∃ w o', TA b0 w G' ∧ G' b1 = some (zla 1 o') ∧ (∀ x, ¬ (b0 ≤ x ∧ x < b0 + 475) → x ≠ b1 → G' x = G x) ∧ Q r w o') := by
  unfold P_LAW_undo at h
  refine z_ofH (by decide +kernel) hfl [some (.ref b0), some (.ref b1), none] rfl (Nat.le_of_ble_eq_true rfl) (fun p e s m args below meth c O hT hret hlk => ?_)
  have O : zO p l s m args c D B sa 3 cL_undo RL := O
  refine z_aload_n O dL_undo_0 rfl rfl ?_
  refine z_iconst (v := 0) O dL_undo_1 (by decide) ?_
  refine z_aload_n O dL_undo_2 rfl rfl ?_
  refine z_callXi (As := []) (st := [.int 0, .ref b1]) O (s_T_undo hfl h0 h) wy_X5_undo wl_RL_69 dL_undo_3 rfl rfl (T_obj h0) ⟨by decide, rfl⟩ ⟨(Nat.le_of_ble_eq_true rfl), (Nat.le_of_ble_eq_true rfl)⟩ (Nat.le_of_ble_eq_true rfl) ⟨(Nat.le_of_ble_eq_true rfl), (Nat.le_of_ble_eq_true rfl)⟩ (fun E z1 G1 hx => ?_) (fun r z1 G1 hq => ?_)
  · obtain ⟨w, k1, k2, hx⟩ := hx
    by_cases e0 : E = "java/lang/IllegalStateException"
    · have hc := hx.1 e0
      subst e0
      refine z_catch [] ⟨0, 8, 11, 15⟩ [] O (hT.trans rfl) (fun z9 hz => absurd hz List.not_mem_nil) (by decide) (by decide) wk_RL_15 (by decide) (fun q9 => ?_)
      refine z_astore_n (L' := [some (.ref b0), some (.ref b1), some (.ref q9)]) O dL_undo_11 rfl (by decide) rfl ?_
      refine z_iconst (v := 1) O dL_undo_12 (by decide) ?_
      exact z_iret O hret hlk dL_undo_13 (Nat.le_of_ble_eq_true rfl) (Nat.le_of_ble_eq_true rfl) ⟨_, rfl, w, o, k1, (k2 b1 (by omega)).trans h1, (fun x hx _ => k2 x hx), hc⟩
    · exact (hx.2 e0).elim
  · obtain ⟨rfl, w, k1, k2, h⟩ := hq
    refine z_i2l O dL_undo_6 ?_
    refine y_last O dL_undo_7 ((k2 b1 (by omega)).trans h1) (vp_i (by decide)) (fun G2 hG2 => ?_)
    refine z_goto (tgt := 14) O dL_undo_8 (by decide) ?_
    refine z_iconst (v := 0) O dL_undo_14 (by decide) ?_
    exact z_iret O hret hlk dL_undo_15 (Nat.le_of_ble_eq_true rfl) (Nat.le_of_ble_eq_true rfl) ⟨_, rfl, w, _, TA.eq k1 (fun q g1 g2 => hG2.2 q (by omega)), hG2.1, (fun x hx hx2 => (hG2.2 x hx2).trans (k2 x hx)), h⟩
theorem dL_truth_0 : decode cL_truth 0 = .ok (.aload 4, 2) := by decide +kernel
theorem dL_truth_2 : decode cL_truth 2 = .ok (.iconst 0, 1) := by decide +kernel
theorem dL_truth_3 : decode cL_truth 3 = .ok (.aload_n 0, 1) := by decide +kernel
theorem dL_truth_4 : decode cL_truth 4 = .ok (.iload_n 1, 1) := by decide +kernel
theorem dL_truth_5 : decode cL_truth 5 = .ok (.iload_n 2, 1) := by decide +kernel
theorem dL_truth_6 : decode cL_truth 6 = .ok (.iload_n 3, 1) := by decide +kernel
theorem dL_truth_7 : decode cL_truth 7 = .ok (.invokevirtual 72, 3) := by decide +kernel
theorem dL_truth_10 : decode cL_truth 10 = .ok (.i2l, 1) := by decide +kernel
theorem dL_truth_11 : decode cL_truth 11 = .ok (.lastore, 1) := by decide +kernel
theorem dL_truth_12 : decode cL_truth 12 = .ok (.goto 11, 3) := by decide +kernel
theorem dL_truth_15 : decode cL_truth 15 = .ok (.astore 5, 2) := by decide +kernel
theorem dL_truth_17 : decode cL_truth 17 = .ok (.iconst 1, 1) := by decide +kernel
theorem dL_truth_18 : decode cL_truth 18 = .ok (.ireturn, 1) := by decide +kernel
theorem dL_truth_19 : decode cL_truth 19 = .ok (.astore 5, 2) := by decide +kernel
theorem dL_truth_21 : decode cL_truth 21 = .ok (.iconst 2, 1) := by decide +kernel
theorem dL_truth_22 : decode cL_truth 22 = .ok (.ireturn, 1) := by decide +kernel
theorem dL_truth_23 : decode cL_truth 23 = .ok (.iconst 0, 1) := by decide +kernel
theorem dL_truth_24 : decode cL_truth 24 = .ok (.ireturn, 1) := by decide +kernel
abbrev hL_truth : List (Nat × Nat × Nat × Nat) := [(0, 12, 15, 28), (0, 12, 19, 13)]
theorem wh_L_truth : zYh yL_truth cL_truth 6 (some .int) hL_truth 5 := ⟨(zgt_at 822 (by decide +kernel) (by decide +kernel)), (zgt_at 28 (by decide +kernel) (by decide +kernel)), by decide +kernel, by decide +kernel, by decide +kernel⟩
def P_LAW_truth (x1 : Int32) (x2 : Int32) (x3 : Int32) (v0 : TT) (o : Nat → Int64) (Q : Int32 → TT → (Nat → Int64) → Prop) : Prop := P_T_truth x1 x2 x3 v0 (fun E => (E = "java/lang/IndexOutOfBoundsException" → Q 1 v0 o) ∧ (E = "java/lang/IllegalArgumentException" → Q 2 v0 o) ∧ ((¬ E = "java/lang/IndexOutOfBoundsException" ∧ ¬ E = "java/lang/IllegalArgumentException") → False)) (fun r => Q 0 v0 (vp_updL o 0 (Int32.toInt64 r)))
set_option maxRecDepth 100000 in
theorem s_LAW_truth {l : Launch} {D : zD} {B : Nat} {sa : Nat → Nat} (hfl : l.stackTraces = false) {z : Nat} {G : zG} {b0 b1 : Nat} {x1 : Int32} {x2 : Int32} {x3 : Int32} {v0 : TT} {o : Nat → Int64} {Q : Int32 → TT → (Nat → Int64) → Prop} (h0 : TA b0 v0 G) (h1 : G b1 = some (zla 1 o)) (d01 : b0 + 475 ≤ b1) (h : P_LAW_truth x1 x2 x3 v0 o Q) : zSh l D B sa yL_truth cL_truth 6 (some .int) hL_truth 7 113 1 6 [.ref b0, .int x1, .int x2, .int x3, .ref b1] z G (zRi fun r z' G' => ∃ w o', TA b0 w G' ∧ G' b1 = some (zla 1 o') ∧ (∀ x, ¬ (b0 ≤ x ∧ x < b0 + 475) → x ≠ b1 → G' x = G x) ∧ Q r w o') := by
  unfold P_LAW_truth at h
  refine z_ofH (by decide +kernel) hfl [some (.ref b0), some (.int x1), some (.int x2), some (.int x3), some (.ref b1), none] rfl (Nat.le_of_ble_eq_true rfl) (fun p e s m args below meth c O hT hret hlk => ?_)
  have O : zO p l s m args c D B sa 6 cL_truth RL := O
  refine z_aload O dL_truth_0 rfl ?_
  refine z_iconst (v := 0) O dL_truth_2 (by decide) ?_
  refine z_aload_n O dL_truth_3 rfl rfl ?_
  refine z_iload_n O dL_truth_4 rfl rfl ?_
  refine z_iload_n O dL_truth_5 rfl rfl ?_
  refine z_iload_n O dL_truth_6 rfl rfl ?_
  refine z_callXi (As := [.int x1, .int x2, .int x3]) (st := [.int 0, .ref b1]) O (s_T_truth hfl h0 h) wy_X5_truth wl_RL_72 dL_truth_7 rfl rfl (T_obj h0) ⟨by decide, rfl⟩ ⟨(Nat.le_of_ble_eq_true rfl), (Nat.le_of_ble_eq_true rfl)⟩ (Nat.le_of_ble_eq_true rfl) ⟨(Nat.le_of_ble_eq_true rfl), (Nat.le_of_ble_eq_true rfl)⟩ (fun E z1 G1 hx => ?_) (fun r z1 G1 hq => ?_)
  · obtain ⟨rfl, hx⟩ := hx
    by_cases e0 : E = "java/lang/IndexOutOfBoundsException"
    · have hc := hx.1 e0
      subst e0
      refine z_catch [] ⟨0, 12, 15, 28⟩ [⟨0, 12, 19, 13⟩] O (hT.trans rfl) (fun z9 hz => absurd hz List.not_mem_nil) (by decide) (by decide) wk_RL_28 (by decide) (fun q9 => ?_)
      refine z_astore (L' := [some (.ref b0), some (.int x1), some (.int x2), some (.int x3), some (.ref b1), some (.ref q9)]) O dL_truth_15 (by decide) rfl ?_
      refine z_iconst (v := 1) O dL_truth_17 (by decide) ?_
      exact z_iret O hret hlk dL_truth_18 (Nat.le_of_ble_eq_true rfl) (Nat.le_of_ble_eq_true rfl) ⟨_, rfl, v0, o, h0, h1, (fun x _ _ => rfl), hc⟩
    · skip
      by_cases e1 : E = "java/lang/IllegalArgumentException"
      · have hc := hx.2.1 e1
        subst e1
        refine z_catch [⟨0, 12, 15, 28⟩] ⟨0, 12, 19, 13⟩ [] O (hT.trans rfl) (fun z9 hz => by cases List.mem_singleton.mp hz; exact Or.inr ⟨by decide, _, wk_RL_28, by decide⟩) (by decide) (by decide) wk_RL_13 (by decide) (fun q9 => ?_)
        refine z_astore (L' := [some (.ref b0), some (.int x1), some (.int x2), some (.int x3), some (.ref b1), some (.ref q9)]) O dL_truth_19 (by decide) rfl ?_
        refine z_iconst (v := 2) O dL_truth_21 (by decide) ?_
        exact z_iret O hret hlk dL_truth_22 (Nat.le_of_ble_eq_true rfl) (Nat.le_of_ble_eq_true rfl) ⟨_, rfl, v0, o, h0, h1, (fun x _ _ => rfl), hc⟩
      · exact (hx.2.2 ⟨e0, e1⟩).elim
  · obtain ⟨rfl, rfl, h⟩ := hq
    refine z_i2l O dL_truth_10 ?_
    refine y_last O dL_truth_11 h1 (vp_i (by decide)) (fun G2 hG2 => ?_)
    refine z_goto (tgt := 23) O dL_truth_12 (by decide) ?_
    refine z_iconst (v := 0) O dL_truth_23 (by decide) ?_
    exact z_iret O hret hlk dL_truth_24 (Nat.le_of_ble_eq_true rfl) (Nat.le_of_ble_eq_true rfl) ⟨_, rfl, v0, _, TA.eq h0 (fun q g1 g2 => hG2.2 q (by omega)), hG2.1, (fun x hx hx2 => hG2.2 x hx2), h⟩
theorem dL_lostIn_0 : decode cL_lostIn 0 = .ok (.aload_n 2, 1) := by decide +kernel
theorem dL_lostIn_1 : decode cL_lostIn 1 = .ok (.iconst 0, 1) := by decide +kernel
theorem dL_lostIn_2 : decode cL_lostIn 2 = .ok (.aload_n 0, 1) := by decide +kernel
theorem dL_lostIn_3 : decode cL_lostIn 3 = .ok (.iload_n 1, 1) := by decide +kernel
theorem dL_lostIn_4 : decode cL_lostIn 4 = .ok (.invokevirtual 75, 3) := by decide +kernel
theorem dL_lostIn_7 : decode cL_lostIn 7 = .ok (.i2l, 1) := by decide +kernel
theorem dL_lostIn_8 : decode cL_lostIn 8 = .ok (.lastore, 1) := by decide +kernel
theorem dL_lostIn_9 : decode cL_lostIn 9 = .ok (.goto 6, 3) := by decide +kernel
theorem dL_lostIn_12 : decode cL_lostIn 12 = .ok (.astore_n 3, 1) := by decide +kernel
theorem dL_lostIn_13 : decode cL_lostIn 13 = .ok (.iconst 1, 1) := by decide +kernel
theorem dL_lostIn_14 : decode cL_lostIn 14 = .ok (.ireturn, 1) := by decide +kernel
theorem dL_lostIn_15 : decode cL_lostIn 15 = .ok (.iconst 0, 1) := by decide +kernel
theorem dL_lostIn_16 : decode cL_lostIn 16 = .ok (.ireturn, 1) := by decide +kernel
abbrev hL_lostIn : List (Nat × Nat × Nat × Nat) := [(0, 9, 12, 28)]
theorem wh_L_lostIn : zYh yL_lostIn cL_lostIn 4 (some .int) hL_lostIn 3 := ⟨(zgt_at 836 (by decide +kernel) (by decide +kernel)), (zgt_at 28 (by decide +kernel) (by decide +kernel)), by decide +kernel, by decide +kernel, by decide +kernel⟩
def P_LAW_lostIn (x1 : Int32) (v0 : TT) (o : Nat → Int64) (Q : Int32 → TT → (Nat → Int64) → Prop) : Prop := P_T_lostIn x1 v0 (fun E v => (E = "java/lang/IndexOutOfBoundsException" → Q 1 v o) ∧ ((¬ E = "java/lang/IndexOutOfBoundsException") → False)) (fun r v => Q 0 v (vp_updL o 0 (Int32.toInt64 r)))
set_option maxRecDepth 100000 in
theorem s_LAW_lostIn {l : Launch} {D : zD} {B : Nat} {sa : Nat → Nat} (hfl : l.stackTraces = false) {z : Nat} {G : zG} {b0 b1 : Nat} {x1 : Int32} {v0 : TT} {o : Nat → Int64} {Q : Int32 → TT → (Nat → Int64) → Prop} (h0 : TA b0 v0 G) (h1 : G b1 = some (zla 1 o)) (d01 : b0 + 475 ≤ b1) (h : P_LAW_lostIn x1 v0 o Q) : zSh l D B sa yL_lostIn cL_lostIn 4 (some .int) hL_lostIn 7 161 1 6 [.ref b0, .int x1, .ref b1] z G (zRi fun r z' G' => ∃ w o', TA b0 w G' ∧ G' b1 = some (zla 1 o') ∧ (∀ x, ¬ (b0 ≤ x ∧ x < b0 + 475) → x ≠ b1 → G' x = G x) ∧ Q r w o') := by
  unfold P_LAW_lostIn at h
  refine z_ofH (by decide +kernel) hfl [some (.ref b0), some (.int x1), some (.ref b1), none] rfl (Nat.le_of_ble_eq_true rfl) (fun p e s m args below meth c O hT hret hlk => ?_)
  have O : zO p l s m args c D B sa 4 cL_lostIn RL := O
  refine z_aload_n O dL_lostIn_0 rfl rfl ?_
  refine z_iconst (v := 0) O dL_lostIn_1 (by decide) ?_
  refine z_aload_n O dL_lostIn_2 rfl rfl ?_
  refine z_iload_n O dL_lostIn_3 rfl rfl ?_
  refine z_callXi (As := [.int x1]) (st := [.int 0, .ref b1]) O (s_T_lostIn hfl h0 h) wy_X5_lostIn wl_RL_75 dL_lostIn_4 rfl rfl (T_obj h0) ⟨by decide, rfl⟩ ⟨(Nat.le_of_ble_eq_true rfl), (Nat.le_of_ble_eq_true rfl)⟩ (Nat.le_of_ble_eq_true rfl) ⟨(Nat.le_of_ble_eq_true rfl), (Nat.le_of_ble_eq_true rfl)⟩ (fun E z1 G1 hx => ?_) (fun r z1 G1 hq => ?_)
  · obtain ⟨w, k1, k2, hx⟩ := hx
    by_cases e0 : E = "java/lang/IndexOutOfBoundsException"
    · have hc := hx.1 e0
      subst e0
      refine z_catch [] ⟨0, 9, 12, 28⟩ [] O (hT.trans rfl) (fun z9 hz => absurd hz List.not_mem_nil) (by decide) (by decide) wk_RL_28 (by decide) (fun q9 => ?_)
      refine z_astore_n (L' := [some (.ref b0), some (.int x1), some (.ref b1), some (.ref q9)]) O dL_lostIn_12 rfl (by decide) rfl ?_
      refine z_iconst (v := 1) O dL_lostIn_13 (by decide) ?_
      exact z_iret O hret hlk dL_lostIn_14 (Nat.le_of_ble_eq_true rfl) (Nat.le_of_ble_eq_true rfl) ⟨_, rfl, w, o, k1, (k2 b1 (by omega)).trans h1, (fun x hx _ => k2 x hx), hc⟩
    · exact (hx.2 e0).elim
  · obtain ⟨rfl, w, k1, k2, h⟩ := hq
    refine z_i2l O dL_lostIn_7 ?_
    refine y_last O dL_lostIn_8 ((k2 b1 (by omega)).trans h1) (vp_i (by decide)) (fun G2 hG2 => ?_)
    refine z_goto (tgt := 15) O dL_lostIn_9 (by decide) ?_
    refine z_iconst (v := 0) O dL_lostIn_15 (by decide) ?_
    exact z_iret O hret hlk dL_lostIn_16 (Nat.le_of_ble_eq_true rfl) (Nat.le_of_ble_eq_true rfl) ⟨_, rfl, w, _, TA.eq k1 (fun q g1 g2 => hG2.2 q (by omega)), hG2.1, (fun x hx hx2 => (hG2.2 x hx2).trans (k2 x hx)), h⟩
theorem dL_ifFree_0 : decode cL_ifFree 0 = .ok (.aload_n 2, 1) := by decide +kernel
theorem dL_ifFree_1 : decode cL_ifFree 1 = .ok (.iconst 0, 1) := by decide +kernel
theorem dL_ifFree_2 : decode cL_ifFree 2 = .ok (.aload_n 0, 1) := by decide +kernel
theorem dL_ifFree_3 : decode cL_ifFree 3 = .ok (.iload_n 1, 1) := by decide +kernel
theorem dL_ifFree_4 : decode cL_ifFree 4 = .ok (.invokevirtual 78, 3) := by decide +kernel
theorem dL_ifFree_7 : decode cL_ifFree 7 = .ok (.i2l, 1) := by decide +kernel
theorem dL_ifFree_8 : decode cL_ifFree 8 = .ok (.lastore, 1) := by decide +kernel
theorem dL_ifFree_9 : decode cL_ifFree 9 = .ok (.goto 6, 3) := by decide +kernel
theorem dL_ifFree_12 : decode cL_ifFree 12 = .ok (.astore_n 3, 1) := by decide +kernel
theorem dL_ifFree_13 : decode cL_ifFree 13 = .ok (.iconst 1, 1) := by decide +kernel
theorem dL_ifFree_14 : decode cL_ifFree 14 = .ok (.ireturn, 1) := by decide +kernel
theorem dL_ifFree_15 : decode cL_ifFree 15 = .ok (.iconst 0, 1) := by decide +kernel
theorem dL_ifFree_16 : decode cL_ifFree 16 = .ok (.ireturn, 1) := by decide +kernel
abbrev hL_ifFree : List (Nat × Nat × Nat × Nat) := [(0, 9, 12, 28)]
theorem wh_L_ifFree : zYh yL_ifFree cL_ifFree 4 (some .int) hL_ifFree 3 := ⟨(zgt_at 847 (by decide +kernel) (by decide +kernel)), (zgt_at 28 (by decide +kernel) (by decide +kernel)), by decide +kernel, by decide +kernel, by decide +kernel⟩
def P_LAW_ifFree (x1 : Int32) (v0 : TT) (o : Nat → Int64) (Q : Int32 → TT → (Nat → Int64) → Prop) : Prop := P_T_ifFree x1 v0 (fun E v => (E = "java/lang/IndexOutOfBoundsException" → Q 1 v o) ∧ ((¬ E = "java/lang/IndexOutOfBoundsException") → False)) (fun r v => Q 0 v (vp_updL o 0 (Int32.toInt64 r)))
set_option maxRecDepth 100000 in
theorem s_LAW_ifFree {l : Launch} {D : zD} {B : Nat} {sa : Nat → Nat} (hfl : l.stackTraces = false) {z : Nat} {G : zG} {b0 b1 : Nat} {x1 : Int32} {v0 : TT} {o : Nat → Int64} {Q : Int32 → TT → (Nat → Int64) → Prop} (h0 : TA b0 v0 G) (h1 : G b1 = some (zla 1 o)) (d01 : b0 + 475 ≤ b1) (h : P_LAW_ifFree x1 v0 o Q) : zSh l D B sa yL_ifFree cL_ifFree 4 (some .int) hL_ifFree 7 187 1 6 [.ref b0, .int x1, .ref b1] z G (zRi fun r z' G' => ∃ w o', TA b0 w G' ∧ G' b1 = some (zla 1 o') ∧ (∀ x, ¬ (b0 ≤ x ∧ x < b0 + 475) → x ≠ b1 → G' x = G x) ∧ Q r w o') := by
  unfold P_LAW_ifFree at h
  refine z_ofH (by decide +kernel) hfl [some (.ref b0), some (.int x1), some (.ref b1), none] rfl (Nat.le_of_ble_eq_true rfl) (fun p e s m args below meth c O hT hret hlk => ?_)
  have O : zO p l s m args c D B sa 4 cL_ifFree RL := O
  refine z_aload_n O dL_ifFree_0 rfl rfl ?_
  refine z_iconst (v := 0) O dL_ifFree_1 (by decide) ?_
  refine z_aload_n O dL_ifFree_2 rfl rfl ?_
  refine z_iload_n O dL_ifFree_3 rfl rfl ?_
  refine z_callXi (As := [.int x1]) (st := [.int 0, .ref b1]) O (s_T_ifFree hfl h0 h) wy_X5_ifFree wl_RL_78 dL_ifFree_4 rfl rfl (T_obj h0) ⟨by decide, rfl⟩ ⟨(Nat.le_of_ble_eq_true rfl), (Nat.le_of_ble_eq_true rfl)⟩ (Nat.le_of_ble_eq_true rfl) ⟨(Nat.le_of_ble_eq_true rfl), (Nat.le_of_ble_eq_true rfl)⟩ (fun E z1 G1 hx => ?_) (fun r z1 G1 hq => ?_)
  · obtain ⟨w, k1, k2, hx⟩ := hx
    by_cases e0 : E = "java/lang/IndexOutOfBoundsException"
    · have hc := hx.1 e0
      subst e0
      refine z_catch [] ⟨0, 9, 12, 28⟩ [] O (hT.trans rfl) (fun z9 hz => absurd hz List.not_mem_nil) (by decide) (by decide) wk_RL_28 (by decide) (fun q9 => ?_)
      refine z_astore_n (L' := [some (.ref b0), some (.int x1), some (.ref b1), some (.ref q9)]) O dL_ifFree_12 rfl (by decide) rfl ?_
      refine z_iconst (v := 1) O dL_ifFree_13 (by decide) ?_
      exact z_iret O hret hlk dL_ifFree_14 (Nat.le_of_ble_eq_true rfl) (Nat.le_of_ble_eq_true rfl) ⟨_, rfl, w, o, k1, (k2 b1 (by omega)).trans h1, (fun x hx _ => k2 x hx), hc⟩
    · exact (hx.2 e0).elim
  · obtain ⟨rfl, w, k1, k2, h⟩ := hq
    refine z_i2l O dL_ifFree_7 ?_
    refine y_last O dL_ifFree_8 ((k2 b1 (by omega)).trans h1) (vp_i (by decide)) (fun G2 hG2 => ?_)
    refine z_goto (tgt := 15) O dL_ifFree_9 (by decide) ?_
    refine z_iconst (v := 0) O dL_ifFree_15 (by decide) ?_
    exact z_iret O hret hlk dL_ifFree_16 (Nat.le_of_ble_eq_true rfl) (Nat.le_of_ble_eq_true rfl) ⟨_, rfl, w, _, TA.eq k1 (fun q g1 g2 => hG2.2 q (by omega)), hG2.1, (fun x hx hx2 => (hG2.2 x hx2).trans (k2 x hx)), h⟩
theorem dL_leastRoom_0 : decode cL_leastRoom 0 = .ok (.aload_n 2, 1) := by decide +kernel
theorem dL_leastRoom_1 : decode cL_leastRoom 1 = .ok (.iconst 0, 1) := by decide +kernel
theorem dL_leastRoom_2 : decode cL_leastRoom 2 = .ok (.aload_n 0, 1) := by decide +kernel
theorem dL_leastRoom_3 : decode cL_leastRoom 3 = .ok (.iload_n 1, 1) := by decide +kernel
theorem dL_leastRoom_4 : decode cL_leastRoom 4 = .ok (.invokevirtual 81, 3) := by decide +kernel
theorem dL_leastRoom_7 : decode cL_leastRoom 7 = .ok (.i2l, 1) := by decide +kernel
theorem dL_leastRoom_8 : decode cL_leastRoom 8 = .ok (.lastore, 1) := by decide +kernel
theorem dL_leastRoom_9 : decode cL_leastRoom 9 = .ok (.goto 6, 3) := by decide +kernel
theorem dL_leastRoom_12 : decode cL_leastRoom 12 = .ok (.astore_n 3, 1) := by decide +kernel
theorem dL_leastRoom_13 : decode cL_leastRoom 13 = .ok (.iconst 1, 1) := by decide +kernel
theorem dL_leastRoom_14 : decode cL_leastRoom 14 = .ok (.ireturn, 1) := by decide +kernel
theorem dL_leastRoom_15 : decode cL_leastRoom 15 = .ok (.iconst 0, 1) := by decide +kernel
theorem dL_leastRoom_16 : decode cL_leastRoom 16 = .ok (.ireturn, 1) := by decide +kernel
abbrev hL_leastRoom : List (Nat × Nat × Nat × Nat) := [(0, 9, 12, 13)]
theorem wh_L_leastRoom : zYh yL_leastRoom cL_leastRoom 4 (some .int) hL_leastRoom 3 := ⟨(zgt_at 855 (by decide +kernel) (by decide +kernel)), (zgt_at 28 (by decide +kernel) (by decide +kernel)), by decide +kernel, by decide +kernel, by decide +kernel⟩
def P_LAW_leastRoom (x1 : Int32) (v0 : TT) (o : Nat → Int64) (Q : Int32 → TT → (Nat → Int64) → Prop) : Prop := P_T_leastRoom x1 v0 (fun E v => (E = "java/lang/IllegalArgumentException" → Q 1 v o) ∧ ((¬ E = "java/lang/IllegalArgumentException") → False)) (fun r v => Q 0 v (vp_updL o 0 (Int32.toInt64 r)))
set_option maxRecDepth 100000 in
theorem s_LAW_leastRoom {l : Launch} {D : zD} {B : Nat} {sa : Nat → Nat} (hfl : l.stackTraces = false) {z : Nat} {G : zG} {b0 b1 : Nat} {x1 : Int32} {v0 : TT} {o : Nat → Int64} {Q : Int32 → TT → (Nat → Int64) → Prop} (h0 : TA b0 v0 G) (h1 : G b1 = some (zla 1 o)) (d01 : b0 + 475 ≤ b1) (h : P_LAW_leastRoom x1 v0 o Q) : zSh l D B sa yL_leastRoom cL_leastRoom 4 (some .int) hL_leastRoom 8 210 1 6 [.ref b0, .int x1, .ref b1] z G (zRi fun r z' G' => ∃ w o', TA b0 w G' ∧ G' b1 = some (zla 1 o') ∧ (∀ x, ¬ (b0 ≤ x ∧ x < b0 + 475) → x ≠ b1 → G' x = G x) ∧ Q r w o') := by
  unfold P_LAW_leastRoom at h
  refine z_ofH (by decide +kernel) hfl [some (.ref b0), some (.int x1), some (.ref b1), none] rfl (Nat.le_of_ble_eq_true rfl) (fun p e s m args below meth c O hT hret hlk => ?_)
  have O : zO p l s m args c D B sa 4 cL_leastRoom RL := O
  refine z_aload_n O dL_leastRoom_0 rfl rfl ?_
  refine z_iconst (v := 0) O dL_leastRoom_1 (by decide) ?_
  refine z_aload_n O dL_leastRoom_2 rfl rfl ?_
  refine z_iload_n O dL_leastRoom_3 rfl rfl ?_
  refine z_callXi (As := [.int x1]) (st := [.int 0, .ref b1]) O (s_T_leastRoom hfl h0 h) wy_X5_leastRoom wl_RL_81 dL_leastRoom_4 rfl rfl (T_obj h0) ⟨by decide, rfl⟩ ⟨(Nat.le_of_ble_eq_true rfl), (Nat.le_of_ble_eq_true rfl)⟩ (Nat.le_of_ble_eq_true rfl) ⟨(Nat.le_of_ble_eq_true rfl), (Nat.le_of_ble_eq_true rfl)⟩ (fun E z1 G1 hx => ?_) (fun r z1 G1 hq => ?_)
  · obtain ⟨w, k1, k2, hx⟩ := hx
    by_cases e0 : E = "java/lang/IllegalArgumentException"
    · have hc := hx.1 e0
      subst e0
      refine z_catch [] ⟨0, 9, 12, 13⟩ [] O (hT.trans rfl) (fun z9 hz => absurd hz List.not_mem_nil) (by decide) (by decide) wk_RL_13 (by decide) (fun q9 => ?_)
      refine z_astore_n (L' := [some (.ref b0), some (.int x1), some (.ref b1), some (.ref q9)]) O dL_leastRoom_12 rfl (by decide) rfl ?_
      refine z_iconst (v := 1) O dL_leastRoom_13 (by decide) ?_
      exact z_iret O hret hlk dL_leastRoom_14 (Nat.le_of_ble_eq_true rfl) (Nat.le_of_ble_eq_true rfl) ⟨_, rfl, w, o, k1, (k2 b1 (by omega)).trans h1, (fun x hx _ => k2 x hx), hc⟩
    · exact (hx.2 e0).elim
  · obtain ⟨rfl, w, k1, k2, h⟩ := hq
    refine z_i2l O dL_leastRoom_7 ?_
    refine y_last O dL_leastRoom_8 ((k2 b1 (by omega)).trans h1) (vp_i (by decide)) (fun G2 hG2 => ?_)
    refine z_goto (tgt := 15) O dL_leastRoom_9 (by decide) ?_
    refine z_iconst (v := 0) O dL_leastRoom_15 (by decide) ?_
    exact z_iret O hret hlk dL_leastRoom_16 (Nat.le_of_ble_eq_true rfl) (Nat.le_of_ble_eq_true rfl) ⟨_, rfl, w, _, TA.eq k1 (fun q g1 g2 => hG2.2 q (by omega)), hG2.1, (fun x hx hx2 => (hG2.2 x hx2).trans (k2 x hx)), h⟩
theorem dL_runScript_0 : decode cL_runScript 0 = .ok (.aload 4, 2) := by decide +kernel
theorem dL_runScript_2 : decode cL_runScript 2 = .ok (.iconst 0, 1) := by decide +kernel
theorem dL_runScript_3 : decode cL_runScript 3 = .ok (.aload_n 0, 1) := by decide +kernel
theorem dL_runScript_4 : decode cL_runScript 4 = .ok (.iload_n 1, 1) := by decide +kernel
theorem dL_runScript_5 : decode cL_runScript 5 = .ok (.lload_n 2, 1) := by decide +kernel
theorem dL_runScript_6 : decode cL_runScript 6 = .ok (.invokevirtual 84, 3) := by decide +kernel
theorem dL_runScript_9 : decode cL_runScript 9 = .ok (.i2l, 1) := by decide +kernel
theorem dL_runScript_10 : decode cL_runScript 10 = .ok (.lastore, 1) := by decide +kernel
theorem dL_runScript_11 : decode cL_runScript 11 = .ok (.goto 7, 3) := by decide +kernel
theorem dL_runScript_14 : decode cL_runScript 14 = .ok (.astore 5, 2) := by decide +kernel
theorem dL_runScript_16 : decode cL_runScript 16 = .ok (.iconst 1, 1) := by decide +kernel
theorem dL_runScript_17 : decode cL_runScript 17 = .ok (.ireturn, 1) := by decide +kernel
theorem dL_runScript_18 : decode cL_runScript 18 = .ok (.iconst 0, 1) := by decide +kernel
theorem dL_runScript_19 : decode cL_runScript 19 = .ok (.ireturn, 1) := by decide +kernel
abbrev hL_runScript : List (Nat × Nat × Nat × Nat) := [(0, 11, 14, 13)]
theorem wh_L_runScript : zYh yL_runScript cL_runScript 6 (some .int) hL_runScript 4 := ⟨(zgt_at 867 (by decide +kernel) (by decide +kernel)), (zgt_at 28 (by decide +kernel) (by decide +kernel)), by decide +kernel, by decide +kernel, by decide +kernel⟩
def P_LAW_runScript (x1 : Int32) (x2 : Int64) (v0 : TT) (o : Nat → Int64) (Q : Int32 → TT → (Nat → Int64) → Prop) : Prop := P_T_runScript x1 x2 v0 (fun E v => (E = "java/lang/IllegalArgumentException" → Q 1 v o) ∧ ((¬ E = "java/lang/IllegalArgumentException") → False)) (fun r v => Q 0 v (vp_updL o 0 (Int32.toInt64 r)))
set_option maxRecDepth 100000 in
theorem s_LAW_runScript {l : Launch} {D : zD} {B : Nat} {sa : Nat → Nat} (hfl : l.stackTraces = false) {z : Nat} {G : zG} {b0 b1 : Nat} {x1 : Int32} {x2 : Int64} {v0 : TT} {o : Nat → Int64} {Q : Int32 → TT → (Nat → Int64) → Prop} (h0 : TA b0 v0 G) (h1 : G b1 = some (zla 1 o)) (d01 : b0 + 475 ≤ b1) (h : P_LAW_runScript x1 x2 v0 o Q) : zSh l D B sa yL_runScript cL_runScript 6 (some .int) hL_runScript 8 217 1 6 [.ref b0, .int x1, .long x2, .ref b1] z G (zRi fun r z' G' => ∃ w o', TA b0 w G' ∧ G' b1 = some (zla 1 o') ∧ (∀ x, ¬ (b0 ≤ x ∧ x < b0 + 475) → x ≠ b1 → G' x = G x) ∧ Q r w o') := by
  unfold P_LAW_runScript at h
  refine z_ofH (by decide +kernel) hfl [some (.ref b0), some (.int x1), some (.long x2), none, some (.ref b1), none] rfl (Nat.le_of_ble_eq_true rfl) (fun p e s m args below meth c O hT hret hlk => ?_)
  have O : zO p l s m args c D B sa 6 cL_runScript RL := O
  refine z_aload O dL_runScript_0 rfl ?_
  refine z_iconst (v := 0) O dL_runScript_2 (by decide) ?_
  refine z_aload_n O dL_runScript_3 rfl rfl ?_
  refine z_iload_n O dL_runScript_4 rfl rfl ?_
  refine z_lload_n O dL_runScript_5 rfl rfl ?_
  refine z_callXi (As := [.int x1, .long x2]) (st := [.int 0, .ref b1]) O (s_T_runScript hfl h0 h) wy_X5_runScript wl_RL_84 dL_runScript_6 rfl rfl (T_obj h0) ⟨by decide, rfl⟩ ⟨(Nat.le_of_ble_eq_true rfl), (Nat.le_of_ble_eq_true rfl)⟩ (Nat.le_of_ble_eq_true rfl) ⟨(Nat.le_of_ble_eq_true rfl), (Nat.le_of_ble_eq_true rfl)⟩ (fun E z1 G1 hx => ?_) (fun r z1 G1 hq => ?_)
  · obtain ⟨w, k1, k2, hx⟩ := hx
    by_cases e0 : E = "java/lang/IllegalArgumentException"
    · have hc := hx.1 e0
      subst e0
      refine z_catch [] ⟨0, 11, 14, 13⟩ [] O (hT.trans rfl) (fun z9 hz => absurd hz List.not_mem_nil) (by decide) (by decide) wk_RL_13 (by decide) (fun q9 => ?_)
      refine z_astore (L' := [some (.ref b0), some (.int x1), some (.long x2), none, some (.ref b1), some (.ref q9)]) O dL_runScript_14 (by decide) rfl ?_
      refine z_iconst (v := 1) O dL_runScript_16 (by decide) ?_
      exact z_iret O hret hlk dL_runScript_17 (Nat.le_of_ble_eq_true rfl) (Nat.le_of_ble_eq_true rfl) ⟨_, rfl, w, o, k1, (k2 b1 (by omega)).trans h1, (fun x hx _ => k2 x hx), hc⟩
    · exact (hx.2 e0).elim
  · obtain ⟨rfl, w, k1, k2, h⟩ := hq
    refine z_i2l O dL_runScript_9 ?_
    refine y_last O dL_runScript_10 ((k2 b1 (by omega)).trans h1) (vp_i (by decide)) (fun G2 hG2 => ?_)
    refine z_goto (tgt := 18) O dL_runScript_11 (by decide) ?_
    refine z_iconst (v := 0) O dL_runScript_18 (by decide) ?_
    exact z_iret O hret hlk dL_runScript_19 (Nat.le_of_ble_eq_true rfl) (Nat.le_of_ble_eq_true rfl) ⟨_, rfl, w, _, TA.eq k1 (fun q g1 g2 => hG2.2 q (by omega)), hG2.1, (fun x hx hx2 => (hG2.2 x hx2).trans (k2 x hx)), h⟩
theorem dL_simulate_0 : decode cL_simulate 0 = .ok (.aload 4, 2) := by decide +kernel
theorem dL_simulate_2 : decode cL_simulate 2 = .ok (.iconst 0, 1) := by decide +kernel
theorem dL_simulate_3 : decode cL_simulate 3 = .ok (.aload_n 0, 1) := by decide +kernel
theorem dL_simulate_4 : decode cL_simulate 4 = .ok (.lload_n 1, 1) := by decide +kernel
theorem dL_simulate_5 : decode cL_simulate 5 = .ok (.iload_n 3, 1) := by decide +kernel
theorem dL_simulate_6 : decode cL_simulate 6 = .ok (.invokevirtual 88, 3) := by decide +kernel
theorem dL_simulate_9 : decode cL_simulate 9 = .ok (.i2l, 1) := by decide +kernel
theorem dL_simulate_10 : decode cL_simulate 10 = .ok (.lastore, 1) := by decide +kernel
theorem dL_simulate_11 : decode cL_simulate 11 = .ok (.goto 7, 3) := by decide +kernel
theorem dL_simulate_14 : decode cL_simulate 14 = .ok (.astore 5, 2) := by decide +kernel
theorem dL_simulate_16 : decode cL_simulate 16 = .ok (.iconst 1, 1) := by decide +kernel
theorem dL_simulate_17 : decode cL_simulate 17 = .ok (.ireturn, 1) := by decide +kernel
theorem dL_simulate_18 : decode cL_simulate 18 = .ok (.iconst 0, 1) := by decide +kernel
theorem dL_simulate_19 : decode cL_simulate 19 = .ok (.ireturn, 1) := by decide +kernel
abbrev hL_simulate : List (Nat × Nat × Nat × Nat) := [(0, 11, 14, 13)]
theorem wh_L_simulate : zYh yL_simulate cL_simulate 6 (some .int) hL_simulate 4 := ⟨(zgt_at 892 (by decide +kernel) (by decide +kernel)), (zgt_at 28 (by decide +kernel) (by decide +kernel)), by decide +kernel, by decide +kernel, by decide +kernel⟩
def P_LAW_simulate (x1 : Int64) (x2 : Int32) (v0 : TT) (o : Nat → Int64) (Q : Int32 → TT → (Nat → Int64) → Prop) : Prop := P_T_simulate x1 x2 v0 (fun E v => (E = "java/lang/IllegalArgumentException" → Q 1 v o) ∧ ((¬ E = "java/lang/IllegalArgumentException") → False)) (fun r v => Q 0 v (vp_updL o 0 (Int32.toInt64 r)))
set_option maxRecDepth 100000 in
theorem s_LAW_simulate {l : Launch} {D : zD} {B : Nat} {sa : Nat → Nat} (hfl : l.stackTraces = false) {z : Nat} {G : zG} {b0 b1 : Nat} {x1 : Int64} {x2 : Int32} {v0 : TT} {o : Nat → Int64} {Q : Int32 → TT → (Nat → Int64) → Prop} (h0 : TA b0 v0 G) (h1 : G b1 = some (zla 1 o)) (d01 : b0 + 475 ≤ b1) (h : P_LAW_simulate x1 x2 v0 o Q) : zSh l D B sa yL_simulate cL_simulate 6 (some .int) hL_simulate 8 216 1 6 [.ref b0, .long x1, .int x2, .ref b1] z G (zRi fun r z' G' => ∃ w o', TA b0 w G' ∧ G' b1 = some (zla 1 o') ∧ (∀ x, ¬ (b0 ≤ x ∧ x < b0 + 475) → x ≠ b1 → G' x = G x) ∧ Q r w o') := by
  unfold P_LAW_simulate at h
  refine z_ofH (by decide +kernel) hfl [some (.ref b0), some (.long x1), none, some (.int x2), some (.ref b1), none] rfl (Nat.le_of_ble_eq_true rfl) (fun p e s m args below meth c O hT hret hlk => ?_)
  have O : zO p l s m args c D B sa 6 cL_simulate RL := O
  refine z_aload O dL_simulate_0 rfl ?_
  refine z_iconst (v := 0) O dL_simulate_2 (by decide) ?_
  refine z_aload_n O dL_simulate_3 rfl rfl ?_
  refine z_lload_n O dL_simulate_4 rfl rfl ?_
  refine z_iload_n O dL_simulate_5 rfl rfl ?_
  refine z_callXi (As := [.long x1, .int x2]) (st := [.int 0, .ref b1]) O (s_T_simulate hfl h0 h) wy_X5_simulate wl_RL_88 dL_simulate_6 rfl rfl (T_obj h0) ⟨by decide, rfl⟩ ⟨(Nat.le_of_ble_eq_true rfl), (Nat.le_of_ble_eq_true rfl)⟩ (Nat.le_of_ble_eq_true rfl) ⟨(Nat.le_of_ble_eq_true rfl), (Nat.le_of_ble_eq_true rfl)⟩ (fun E z1 G1 hx => ?_) (fun r z1 G1 hq => ?_)
  · obtain ⟨w, k1, k2, hx⟩ := hx
    by_cases e0 : E = "java/lang/IllegalArgumentException"
    · have hc := hx.1 e0
      subst e0
      refine z_catch [] ⟨0, 11, 14, 13⟩ [] O (hT.trans rfl) (fun z9 hz => absurd hz List.not_mem_nil) (by decide) (by decide) wk_RL_13 (by decide) (fun q9 => ?_)
      refine z_astore (L' := [some (.ref b0), some (.long x1), none, some (.int x2), some (.ref b1), some (.ref q9)]) O dL_simulate_14 (by decide) rfl ?_
      refine z_iconst (v := 1) O dL_simulate_16 (by decide) ?_
      exact z_iret O hret hlk dL_simulate_17 (Nat.le_of_ble_eq_true rfl) (Nat.le_of_ble_eq_true rfl) ⟨_, rfl, w, o, k1, (k2 b1 (by omega)).trans h1, (fun x hx _ => k2 x hx), hc⟩
    · exact (hx.2 e0).elim
  · obtain ⟨rfl, w, k1, k2, h⟩ := hq
    refine z_i2l O dL_simulate_9 ?_
    refine y_last O dL_simulate_10 ((k2 b1 (by omega)).trans h1) (vp_i (by decide)) (fun G2 hG2 => ?_)
    refine z_goto (tgt := 18) O dL_simulate_11 (by decide) ?_
    refine z_iconst (v := 0) O dL_simulate_18 (by decide) ?_
    exact z_iret O hret hlk dL_simulate_19 (Nat.le_of_ble_eq_true rfl) (Nat.le_of_ble_eq_true rfl) ⟨_, rfl, w, _, TA.eq k1 (fun q g1 g2 => hG2.2 q (by omega)), hG2.1, (fun x hx hx2 => (hG2.2 x hx2).trans (k2 x hx)), h⟩
theorem dL_save_0 : decode cL_save 0 = .ok (.aload_n 2, 1) := by decide +kernel
theorem dL_save_1 : decode cL_save 1 = .ok (.iconst 0, 1) := by decide +kernel
theorem dL_save_2 : decode cL_save 2 = .ok (.aload_n 0, 1) := by decide +kernel
theorem dL_save_3 : decode cL_save 3 = .ok (.iload_n 1, 1) := by decide +kernel
theorem dL_save_4 : decode cL_save 4 = .ok (.invokevirtual 92, 3) := by decide +kernel
theorem dL_save_7 : decode cL_save 7 = .ok (.i2l, 1) := by decide +kernel
theorem dL_save_8 : decode cL_save 8 = .ok (.lastore, 1) := by decide +kernel
theorem dL_save_9 : decode cL_save 9 = .ok (.goto 6, 3) := by decide +kernel
theorem dL_save_12 : decode cL_save 12 = .ok (.astore_n 3, 1) := by decide +kernel
theorem dL_save_13 : decode cL_save 13 = .ok (.iconst 1, 1) := by decide +kernel
theorem dL_save_14 : decode cL_save 14 = .ok (.ireturn, 1) := by decide +kernel
theorem dL_save_15 : decode cL_save 15 = .ok (.iconst 0, 1) := by decide +kernel
theorem dL_save_16 : decode cL_save 16 = .ok (.ireturn, 1) := by decide +kernel
abbrev hL_save : List (Nat × Nat × Nat × Nat) := [(0, 9, 12, 28)]
theorem wh_L_save : zYh yL_save cL_save 4 (some .int) hL_save 3 := ⟨(zgt_at 906 (by decide +kernel) (by decide +kernel)), (zgt_at 28 (by decide +kernel) (by decide +kernel)), by decide +kernel, by decide +kernel, by decide +kernel⟩
def P_LAW_save (x1 : Int32) (v0 : TT) (o : Nat → Int64) (Q : Int32 → TT → (Nat → Int64) → Prop) : Prop := P_T_save x1 v0 (fun E v => (E = "java/lang/IndexOutOfBoundsException" → Q 1 v o) ∧ ((¬ E = "java/lang/IndexOutOfBoundsException") → False)) (fun r v => Q 0 v (vp_updL o 0 (Int32.toInt64 r)))
set_option maxRecDepth 100000 in
theorem s_LAW_save {l : Launch} {D : zD} {B : Nat} {sa : Nat → Nat} (hfl : l.stackTraces = false) {z : Nat} {G : zG} {b0 b1 : Nat} {x1 : Int32} {v0 : TT} {o : Nat → Int64} {Q : Int32 → TT → (Nat → Int64) → Prop} (h0 : TA b0 v0 G) (h1 : G b1 = some (zla 1 o)) (d01 : b0 + 475 ≤ b1) (h : P_LAW_save x1 v0 o Q) : zSh l D B sa yL_save cL_save 4 (some .int) hL_save 7 140 1 6 [.ref b0, .int x1, .ref b1] z G (zRi fun r z' G' => ∃ w o', TA b0 w G' ∧ G' b1 = some (zla 1 o') ∧ (∀ x, ¬ (b0 ≤ x ∧ x < b0 + 475) → x ≠ b1 → G' x = G x) ∧ Q r w o') := by
  unfold P_LAW_save at h
  refine z_ofH (by decide +kernel) hfl [some (.ref b0), some (.int x1), some (.ref b1), none] rfl (Nat.le_of_ble_eq_true rfl) (fun p e s m args below meth c O hT hret hlk => ?_)
  have O : zO p l s m args c D B sa 4 cL_save RL := O
  refine z_aload_n O dL_save_0 rfl rfl ?_
  refine z_iconst (v := 0) O dL_save_1 (by decide) ?_
  refine z_aload_n O dL_save_2 rfl rfl ?_
  refine z_iload_n O dL_save_3 rfl rfl ?_
  refine z_callXi (As := [.int x1]) (st := [.int 0, .ref b1]) O (s_T_save hfl h0 h) wy_X5_save wl_RL_92 dL_save_4 rfl rfl (T_obj h0) ⟨by decide, rfl⟩ ⟨(Nat.le_of_ble_eq_true rfl), (Nat.le_of_ble_eq_true rfl)⟩ (Nat.le_of_ble_eq_true rfl) ⟨(Nat.le_of_ble_eq_true rfl), (Nat.le_of_ble_eq_true rfl)⟩ (fun E z1 G1 hx => ?_) (fun r z1 G1 hq => ?_)
  · obtain ⟨w, k1, k2, hx⟩ := hx
    by_cases e0 : E = "java/lang/IndexOutOfBoundsException"
    · have hc := hx.1 e0
      subst e0
      refine z_catch [] ⟨0, 9, 12, 28⟩ [] O (hT.trans rfl) (fun z9 hz => absurd hz List.not_mem_nil) (by decide) (by decide) wk_RL_28 (by decide) (fun q9 => ?_)
      refine z_astore_n (L' := [some (.ref b0), some (.int x1), some (.ref b1), some (.ref q9)]) O dL_save_12 rfl (by decide) rfl ?_
      refine z_iconst (v := 1) O dL_save_13 (by decide) ?_
      exact z_iret O hret hlk dL_save_14 (Nat.le_of_ble_eq_true rfl) (Nat.le_of_ble_eq_true rfl) ⟨_, rfl, w, o, k1, (k2 b1 (by omega)).trans h1, (fun x hx _ => k2 x hx), hc⟩
    · exact (hx.2 e0).elim
  · obtain ⟨rfl, w, k1, k2, h⟩ := hq
    refine z_i2l O dL_save_7 ?_
    refine y_last O dL_save_8 ((k2 b1 (by omega)).trans h1) (vp_i (by decide)) (fun G2 hG2 => ?_)
    refine z_goto (tgt := 15) O dL_save_9 (by decide) ?_
    refine z_iconst (v := 0) O dL_save_15 (by decide) ?_
    exact z_iret O hret hlk dL_save_16 (Nat.le_of_ble_eq_true rfl) (Nat.le_of_ble_eq_true rfl) ⟨_, rfl, w, _, TA.eq k1 (fun q g1 g2 => hG2.2 q (by omega)), hG2.1, (fun x hx hx2 => (hG2.2 x hx2).trans (k2 x hx)), h⟩
theorem dL_restore_0 : decode cL_restore 0 = .ok (.aload_n 2, 1) := by decide +kernel
theorem dL_restore_1 : decode cL_restore 1 = .ok (.iconst 0, 1) := by decide +kernel
theorem dL_restore_2 : decode cL_restore 2 = .ok (.aload_n 0, 1) := by decide +kernel
theorem dL_restore_3 : decode cL_restore 3 = .ok (.iload_n 1, 1) := by decide +kernel
theorem dL_restore_4 : decode cL_restore 4 = .ok (.invokevirtual 95, 3) := by decide +kernel
theorem dL_restore_7 : decode cL_restore 7 = .ok (.i2l, 1) := by decide +kernel
theorem dL_restore_8 : decode cL_restore 8 = .ok (.lastore, 1) := by decide +kernel
theorem dL_restore_9 : decode cL_restore 9 = .ok (.goto 9, 3) := by decide +kernel
theorem dL_restore_12 : decode cL_restore 12 = .ok (.astore_n 3, 1) := by decide +kernel
theorem dL_restore_13 : decode cL_restore 13 = .ok (.iconst 1, 1) := by decide +kernel
theorem dL_restore_14 : decode cL_restore 14 = .ok (.ireturn, 1) := by decide +kernel
theorem dL_restore_15 : decode cL_restore 15 = .ok (.astore_n 3, 1) := by decide +kernel
theorem dL_restore_16 : decode cL_restore 16 = .ok (.iconst 2, 1) := by decide +kernel
theorem dL_restore_17 : decode cL_restore 17 = .ok (.ireturn, 1) := by decide +kernel
theorem dL_restore_18 : decode cL_restore 18 = .ok (.iconst 0, 1) := by decide +kernel
theorem dL_restore_19 : decode cL_restore 19 = .ok (.ireturn, 1) := by decide +kernel
abbrev hL_restore : List (Nat × Nat × Nat × Nat) := [(0, 9, 12, 28), (0, 9, 15, 15)]
theorem wh_L_restore : zYh yL_restore cL_restore 4 (some .int) hL_restore 3 := ⟨(zgt_at 914 (by decide +kernel) (by decide +kernel)), (zgt_at 28 (by decide +kernel) (by decide +kernel)), by decide +kernel, by decide +kernel, by decide +kernel⟩
def P_LAW_restore (x1 : Int32) (v0 : TT) (o : Nat → Int64) (Q : Int32 → TT → (Nat → Int64) → Prop) : Prop := P_T_restore x1 v0 (fun E v => (E = "java/lang/IndexOutOfBoundsException" → Q 1 v o) ∧ (E = "java/lang/IllegalStateException" → Q 2 v o) ∧ ((¬ E = "java/lang/IndexOutOfBoundsException" ∧ ¬ E = "java/lang/IllegalStateException") → False)) (fun r v => Q 0 v (vp_updL o 0 (Int32.toInt64 r)))
set_option maxRecDepth 100000 in
theorem s_LAW_restore {l : Launch} {D : zD} {B : Nat} {sa : Nat → Nat} (hfl : l.stackTraces = false) {z : Nat} {G : zG} {b0 b1 : Nat} {x1 : Int32} {v0 : TT} {o : Nat → Int64} {Q : Int32 → TT → (Nat → Int64) → Prop} (h0 : TA b0 v0 G) (h1 : G b1 = some (zla 1 o)) (d01 : b0 + 475 ≤ b1) (h : P_LAW_restore x1 v0 o Q) : zSh l D B sa yL_restore cL_restore 4 (some .int) hL_restore 7 139 1 6 [.ref b0, .int x1, .ref b1] z G (zRi fun r z' G' => ∃ w o', TA b0 w G' ∧ G' b1 = some (zla 1 o') ∧ (∀ x, ¬ (b0 ≤ x ∧ x < b0 + 475) → x ≠ b1 → G' x = G x) ∧ Q r w o') := by
  unfold P_LAW_restore at h
  refine z_ofH (by decide +kernel) hfl [some (.ref b0), some (.int x1), some (.ref b1), none] rfl (Nat.le_of_ble_eq_true rfl) (fun p e s m args below meth c O hT hret hlk => ?_)
  have O : zO p l s m args c D B sa 4 cL_restore RL := O
  refine z_aload_n O dL_restore_0 rfl rfl ?_
  refine z_iconst (v := 0) O dL_restore_1 (by decide) ?_
  refine z_aload_n O dL_restore_2 rfl rfl ?_
  refine z_iload_n O dL_restore_3 rfl rfl ?_
  refine z_callXi (As := [.int x1]) (st := [.int 0, .ref b1]) O (s_T_restore hfl h0 h) wy_X5_restore wl_RL_95 dL_restore_4 rfl rfl (T_obj h0) ⟨by decide, rfl⟩ ⟨(Nat.le_of_ble_eq_true rfl), (Nat.le_of_ble_eq_true rfl)⟩ (Nat.le_of_ble_eq_true rfl) ⟨(Nat.le_of_ble_eq_true rfl), (Nat.le_of_ble_eq_true rfl)⟩ (fun E z1 G1 hx => ?_) (fun r z1 G1 hq => ?_)
  · obtain ⟨w, k1, k2, hx⟩ := hx
    by_cases e0 : E = "java/lang/IndexOutOfBoundsException"
    · have hc := hx.1 e0
      subst e0
      refine z_catch [] ⟨0, 9, 12, 28⟩ [⟨0, 9, 15, 15⟩] O (hT.trans rfl) (fun z9 hz => absurd hz List.not_mem_nil) (by decide) (by decide) wk_RL_28 (by decide) (fun q9 => ?_)
      refine z_astore_n (L' := [some (.ref b0), some (.int x1), some (.ref b1), some (.ref q9)]) O dL_restore_12 rfl (by decide) rfl ?_
      refine z_iconst (v := 1) O dL_restore_13 (by decide) ?_
      exact z_iret O hret hlk dL_restore_14 (Nat.le_of_ble_eq_true rfl) (Nat.le_of_ble_eq_true rfl) ⟨_, rfl, w, o, k1, (k2 b1 (by omega)).trans h1, (fun x hx _ => k2 x hx), hc⟩
    · skip
      by_cases e1 : E = "java/lang/IllegalStateException"
      · have hc := hx.2.1 e1
        subst e1
        refine z_catch [⟨0, 9, 12, 28⟩] ⟨0, 9, 15, 15⟩ [] O (hT.trans rfl) (fun z9 hz => by cases List.mem_singleton.mp hz; exact Or.inr ⟨by decide, _, wk_RL_28, by decide⟩) (by decide) (by decide) wk_RL_15 (by decide) (fun q9 => ?_)
        refine z_astore_n (L' := [some (.ref b0), some (.int x1), some (.ref b1), some (.ref q9)]) O dL_restore_15 rfl (by decide) rfl ?_
        refine z_iconst (v := 2) O dL_restore_16 (by decide) ?_
        exact z_iret O hret hlk dL_restore_17 (Nat.le_of_ble_eq_true rfl) (Nat.le_of_ble_eq_true rfl) ⟨_, rfl, w, o, k1, (k2 b1 (by omega)).trans h1, (fun x hx _ => k2 x hx), hc⟩
      · exact (hx.2.2 ⟨e0, e1⟩).elim
  · obtain ⟨rfl, w, k1, k2, h⟩ := hq
    refine z_i2l O dL_restore_7 ?_
    refine y_last O dL_restore_8 ((k2 b1 (by omega)).trans h1) (vp_i (by decide)) (fun G2 hG2 => ?_)
    refine z_goto (tgt := 18) O dL_restore_9 (by decide) ?_
    refine z_iconst (v := 0) O dL_restore_18 (by decide) ?_
    exact z_iret O hret hlk dL_restore_19 (Nat.le_of_ble_eq_true rfl) (Nat.le_of_ble_eq_true rfl) ⟨_, rfl, w, _, TA.eq k1 (fun q g1 g2 => hG2.2 q (by omega)), hG2.1, (fun x hx hx2 => (hG2.2 x hx2).trans (k2 x hx)), h⟩

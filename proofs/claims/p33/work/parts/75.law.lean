theorem wc_RL_7 : Cond.constant RL 7 15594233 ∈ zgt := (zgt_at 256 (by decide +kernel) (by decide +kernel))
theorem wc_RL_8 : Cond.constant RL 8 2147483647 ∈ zgt := (zgt_at 257 (by decide +kernel) (by decide +kernel))
/-! the script is drawn from -/
section ZDR
variable {p : Program} {l : Launch} {e : Env} {R : Room} {s : State} {m : MethodId} {args : Array Value} {below : List Frame} {meth : Method} {c : Code} {Q : State → Prop} {D : zD} {B nL : Nat} {sa : Nat → Nat} {cc : ByteArray} {own : String} {k n pc z : Nat} {st : List Value} {L : zL} {G : zG}
theorem z_sld {b0 N : Nat} {xs : Nat → Int32} {i : Int32} (O : zO p l s m args c D B sa nL cc own) (hX : va_X b0 N xs s s.heap) (hb : b0 < s.heap.size) (hbB : ¬ B ≤ b0) (hin : vp_in i N) (hd : decode cc pc = .ok (.iaload, 1))
    (kk : zT p l e R s m args below meth c Q D B nL k n (pc + 1) (.int (xs i.toNatClampNeg) :: st) L z G) : zT p l e R s m args below meth c Q D B nL k n pc (.int i :: .ref b0 :: st) L z G := fun H locs ls hR hS hl =>
  va_sld O.1 O.2.1 hX hb hbB hS hin hd (kk H locs ls hR hS hl)
theorem z_slen {b0 N : Nat} {xs : Nat → Int32} (O : zO p l s m args c D B sa nL cc own) (hX : va_X b0 N xs s s.heap) (hb : b0 < s.heap.size) (hbB : ¬ B ≤ b0) (hd : decode cc pc = .ok (.arraylength, 1))
    (kk : zT p l e R s m args below meth c Q D B nL k n (pc + 1) (.int (Int32.ofNat N) :: st) L z G) : zT p l e R s m args below meth c Q D B nL k n pc (.ref b0 :: st) L z G := fun H locs ls hR hS hl =>
  va_slen O.1 O.2.1 hX hb hbB hS hd (kk H locs ls hR hS hl)
theorem lw_cmp0 {a b : Int64} (h : a = b) : lg_cmp a b = 0 := by
  subst h
  unfold lg_cmp
  rw [if_neg (by simp), if_pos rfl]
theorem lw_nn {a : Int64} (h : 0 ≤ a.toInt) : ¬ lg_cmp a 0 < 0 := by
  unfold lg_cmp
  split
  · decide
  · split
    · decide
    · rename_i h1 h2
      exfalso
      have z0 : (0 : Int64).toInt = 0 := rfl
      have e1 : ¬ (0 < a.toInt) := fun q => h1 (Int64.lt_iff_toInt_lt.mpr (by rw [z0]; exact q))
      exact h2 (Int64.toInt_inj.mp (by rw [z0]; omega))
theorem lw_and {y : Int32} : 0 ≤ (y &&& 2147483647).toInt := by
  have e : (y &&& 2147483647).toInt = (y.toBitVec &&& (2147483647 : Int32).toBitVec).toInt := rfl
  have h : (y.toBitVec &&& (2147483647 : Int32).toBitVec).toNat ≤ 2147483647 := by
    rw [BitVec.toNat_and]
    exact Nat.and_le_right
  have cnd := BitVec.toInt_eq_toNat_cond (y.toBitVec &&& (2147483647 : Int32).toBitVec)
  rw [e, cnd]
  split <;> omega
def zPcX (D : zD) (B : Nat) (sa : Nat → Nat) (z : Nat) (G : zG) (b0 N : Nat) (xs : Nat → Int32) (av : List Value) : Array Value → State → Prop := va_Pc av (fun U => (zR D B z G U.heap ∧ zW D B sa U U.heap ∧ B ≤ U.heap.size) ∧ va_X b0 N xs U U.heap)
theorem zPcX_blind {b0 N : Nat} {xs : Nat → Int32} {av : List Value} : FrameBlind (zPcX D B sa z G b0 N xs av) := fun a U g mk h => ⟨h.1, ⟨h.2.1.1, zW.same h.2.1.2.1 rfl, h.2.1.2.2⟩, va_X.moved (Vm.Alike.refl _) h.2.2⟩
def zSd (l : Launch) (D : zD) (B : Nat) (sa : Nat → Nat) (b0 N : Nat) (xs : Nat → Int32) (y : MethodName) (cy : ByteArray) (maxL : Nat) (ret : Option FieldType) (fr lo mc ms : Nat) (av : List Value) (z : Nat) (G : zG) (Po : Option Value → Nat → zG → Prop) : Prop :=
  Met l y (zws y cy maxL ret) (zrm fr lo mc ms) (zPcX D B sa z G b0 N xs av) (zQ D B Po) mc ms (zA B)
theorem z_callSd {idx maxL fr lo mc ms np b0 N : Nat} {xs : Nat → Int32} {y : MethodName} {cy : ByteArray} {ret : Option FieldType} {As st0 : List Value} {S : Int32 → Nat → zG → Prop} (O : zO p l s m args c D B sa nL cc own) (hX : va_X b0 N xs s s.heap) (hb : b0 < s.heap.size) (hbB : ¬ B ≤ b0) (hM : zSd l D B sa b0 N xs y cy maxL ret fr lo mc ms As z G (zRi S)) (hY : zYw y cy maxL ret np) (hLk : zLs own idx y) (hd : decode cc pc = .ok (.invokestatic idx, 3)) (hst : st0 = As.reverse ++ st) (hnp : As.length = np) (hrm : fr + 1 ≤ R.frames ∧ 8 + (maxL + 11) + lo ≤ R.locals) (hW : (st.map fun v => v.category).sum ≤ 8) (hf : k + mc ≤ R.cells ∧ n + ms ≤ R.slots) (kk : ∀ (r : Int32) (z' : Nat) (G' : zG), S r z' G' → zT p l e R s m args below meth c Q D B nL (k + mc) (n + ms) (pc + 3) (.int r :: st) L z' G') : zT p l e R s m args below meth c Q D B nL k n pc st0 L z G := by
  intro H locs ls hR hS hl
  subst hst
  refine z_fin (va_runS (rest := st) (As := As) O.cf hM ⟨zCB O hY hLk.1 hrm, O.w hLk.2⟩ ⟨zPcX_blind, fun U hU hW' => ?_⟩ rfl hnp hl.1 rfl (lv_room hW) hd hf) hS hl (fun v z' G' ⟨r, hv, h⟩ => by subst hv; exact kk r z' G' h)
  have g := zPre O hR hS As U hU hW'
  refine ⟨g.1, g.2, ?_⟩
  rw [hU]
  exact va_X.moved hW'.alike (hX.kept (hS.2.1 b0 hb hbB))
theorem z_ofD {y : MethodName} {cy : ByteArray} {maxL fr lo mc ms b0 N : Nat} {xs : Nat → Int32} {ret : Option FieldType} {av : List Value} {Po : Option Value → Nat → zG → Prop} (hy : plainName y.cls = true) (hfl : l.stackTraces = false) (L0 : zL) (hL0 : zp L0 0 = lv_args 0 av) (hlen : (lg_sl av).length ≤ maxL)
    (body : ∀ (p : Program) (e : Env) (s : State) (m : MethodId) (args : Array Value) (below : List Frame) (meth : Method) (c : Code), zO p l s m args c D B sa maxL cy y.cls → va_X b0 N xs s s.heap → meth.sig.returnType = ret → meth.locks = false → zT p l e (zrm fr lo mc ms) s m args below meth c (zEnd below D B Po args s mc ms) D B maxL 0 0 0 [] L0 z G) : zSd l D B sa b0 N xs y cy maxL ret fr lo mc ms av z G Po := by
  refine Met.ofW (cc := cy) (maxL := maxL) (ret := ret) hy rfl ?_
  intro p e s m args below meth c s₁ Bd hml hv
  obtain ⟨rfl, ⟨hR, hW, hB⟩, hX⟩ := hv
  have hts := atoms_spec (ws := zws y cy maxL ret) Bd.pre
  have hl := lv_entry av (n := maxL) hlen
  rw [lg_entry_eq]
  generalize (lg_sl av ++ List.replicate (maxL - (lg_sl av).length) Slot.unset).toArray = ls at hl ⊢
  rw [← hL0] at hl
  exact body p e s m _ below meth c ⟨Bd.exec, Bd.bytes, hml, findClass_of_methodNamed Bd.named, fun w hw => hts w (List.mem_cons_of_mem _ hw), hW, hB, hfl⟩ hX Bd.returns Bd.notSynchronized s.heap [] ls hR va_S.rf hl
end ZDR
theorem dL_draw_0 : decode cL_draw 0 = .ok (.iload_n 1, 1) := by decide +kernel
theorem dL_draw_1 : decode cL_draw 1 = .ok (.aload_n 0, 1) := by decide +kernel
theorem dL_draw_2 : decode cL_draw 2 = .ok (.arraylength, 1) := by decide +kernel
theorem dL_draw_3 : decode cL_draw 3 = .ok (.if_icmp .ge 9, 3) := by decide +kernel
theorem dL_draw_6 : decode cL_draw 6 = .ok (.aload_n 0, 1) := by decide +kernel
theorem dL_draw_7 : decode cL_draw 7 = .ok (.iload_n 1, 1) := by decide +kernel
theorem dL_draw_8 : decode cL_draw 8 = .ok (.iaload, 1) := by decide +kernel
theorem dL_draw_9 : decode cL_draw 9 = .ok (.goto 11, 3) := by decide +kernel
theorem dL_draw_12 : decode cL_draw 12 = .ok (.ldc 7, 2) := by decide +kernel
theorem dL_draw_14 : decode cL_draw 14 = .ok (.iload_n 1, 1) := by decide +kernel
theorem dL_draw_15 : decode cL_draw 15 = .ok (.imul, 1) := by decide +kernel
theorem dL_draw_16 : decode cL_draw 16 = .ok (.sipush 10831, 3) := by decide +kernel
theorem dL_draw_19 : decode cL_draw 19 = .ok (.iadd, 1) := by decide +kernel
theorem dL_draw_20 : decode cL_draw 20 = .ok (.ldc 8, 2) := by decide +kernel
theorem dL_draw_22 : decode cL_draw 22 = .ok (.iand, 1) := by decide +kernel
theorem dL_draw_23 : decode cL_draw 23 = .ok (.ireturn, 1) := by decide +kernel
set_option maxRecDepth 100000 in
theorem s_LAW_draw {l : Launch} {D : zD} {B : Nat} {sa : Nat → Nat} (hfl : l.stackTraces = false) {z : Nat} {G : zG} {b0 N : Nat} {xs : Nat → Int32} {x1 : Int32} (hbB : ¬ B ≤ b0) (hN : N ≤ 260) (h0 : 0 ≤ x1.toInt) : zSd l D B sa b0 N xs yL_draw cL_draw 2 (some .int) 0 0 0 0 [.ref b0, .int x1] z G (zRi fun r z' G' => z = z' ∧ G = G' ∧ 0 ≤ r.toInt) := by
  refine z_ofD (by decide +kernel) hfl [some (.ref b0), some (.int x1)] rfl (Nat.le_of_ble_eq_true rfl) (fun p e s m args below meth c O hX hret hlk => ?_)
  have O : zO p l s m args c D B sa 2 cL_draw RL := O
  have hb : b0 < s.heap.size := by have := O.2.2.2.2.2.2.1; omega
  have fin : ∀ y : Int32, zT p l e (zrm 0 0 0 0) s m args below meth c (zEnd below D B (zRi fun r z' G' => z = z' ∧ G = G' ∧ 0 ≤ r.toInt) args s 0 0) D B 2 0 0 20 [.int y] [some (.ref b0), some (.int x1)] z G := by
    intro y
    refine z_ldc (v := 2147483647) O wc_RL_8 dL_draw_20 ?_
    refine z_iand O dL_draw_22 ?_
    exact z_iret O hret hlk dL_draw_23 (Nat.le_of_ble_eq_true rfl) (Nat.le_of_ble_eq_true rfl) ⟨_, rfl, rfl, rfl, lw_and⟩
  refine z_iload_n O dL_draw_0 rfl rfl ?_
  refine z_aload_n O dL_draw_1 rfl rfl ?_
  refine z_slen O hX hb hbB dL_draw_2 ?_
  refine z_icmp_ge (tgt := 12) O dL_draw_3 (by decide) (fun _ => ?_) (fun q => ?_)
  · refine z_ldc (v := 15594233) O wc_RL_7 dL_draw_12 ?_
    refine z_iload_n O dL_draw_14 rfl rfl ?_
    refine z_imul O dL_draw_15 ?_
    refine z_sipush (v := 10831) O dL_draw_16 (by decide) ?_
    refine z_iadd O dL_draw_19 ?_
    exact fin _
  · have hN' : (Int32.ofNat N).toInt = N := Int32.toInt_ofNat_of_lt (by omega)
    have hin : vp_in x1 N := zt_in rfl ⟨h0, by
      rcases Int.lt_or_le x1.toInt (N : Int) with z9 | z9
      · exact z9
      · exact absurd ((zt_le hN' rfl).mpr z9) q⟩
    refine z_aload_n O dL_draw_6 rfl rfl ?_
    refine z_iload_n O dL_draw_7 rfl rfl ?_
    refine z_sld O hX hb hbB hin dL_draw_8 ?_
    refine z_goto (tgt := 20) O dL_draw_9 (by decide) ?_
    exact fin _

section ZM
variable {p : Program} {l : Launch} {e : Env} {R : Room} {s : State} {m : MethodId} {args : Array Value} {below : List Frame} {meth : Method} {c : Code} {Q : State → Prop} {D : zD} {B nL : Nat} {sa : Nat → Nat} {cc : ByteArray} {own : String} {k n pc z : Nat} {st : List Value} {L : zL} {G : zG}
theorem z_aloadN_n {j : Fin 4} {i : Nat} (O : zO p l s m args c D B sa nL cc own) (hd : decode cc pc = .ok (.aload_n j, 1)) (hi : (j : Nat) = i) (hx : L[i]? = some (some .null)) (kk : zT p l e R s m args below meth c Q D B nL k n (pc + 1) (.null :: st) L z G) : zT p l e R s m args below meth c Q D B nL k n pc st L z G := fun H locs ls hR hS hl => lv_aload_nN O.1 O.2.1 hd hi (hl.at hx) (kk H locs ls hR hS hl)
theorem z_aloadN {i : Nat} (O : zO p l s m args c D B sa nL cc own) (hd : decode cc pc = .ok (.aload i, 2)) (hx : L[i]? = some (some .null)) (kk : zT p l e R s m args below meth c Q D B nL k n (pc + 2) (.null :: st) L z G) : zT p l e R s m args below meth c Q D B nL k n pc st L z G := fun H locs ls hR hS hl => lv_aloadN O.1 O.2.1 hd (hl.at hx) (kk H locs ls hR hS hl)
theorem z_astoreN_n {j : Fin 4} {i : Nat} {L' : zL} (O : zO p l s m args c D B sa nL cc own) (hd : decode cc pc = .ok (.astore_n j, 1)) (hi : (j : Nat) = i) (hn : i < nL) (hL : zset L i .null = L') (kk : zT p l e R s m args below meth c Q D B nL k n (pc + 1) st L' z G) : zT p l e R s m args below meth c Q D B nL k n pc (.null :: st) L z G := fun H locs ls hR hS hl => lv_astore_nN O.1 O.2.1 hd hi hl hn rfl (fun ls' h' => kk H locs ls' hR hS (hL ▸ zlv.store1 h'))
theorem z_astoreN {i : Nat} {L' : zL} (O : zO p l s m args c D B sa nL cc own) (hd : decode cc pc = .ok (.astore i, 2)) (hn : i < nL) (hL : zset L i .null = L') (kk : zT p l e R s m args below meth c Q D B nL k n (pc + 2) st L' z G) : zT p l e R s m args below meth c Q D B nL k n pc (.null :: st) L z G := fun H locs ls hR hS hl => lv_astoreN O.1 O.2.1 hd hl hn rfl (fun ls' h' => kk H locs ls' hR hS (hL ▸ zlv.store1 h'))
/-- stores, the heap behind them as a name -/
theorem y_put {idx ci N0 kf a : Nat} {f : Nat → Value} {v : Value} {ty : FieldType} (O : zO p l s m args c D B sa nL cc own) (hF : zFp own idx ci kf ty false) (hd : decode cc pc = .ok (.putfield idx, 3)) (hG : G a = some (ci, N0, f)) (hn : narrow ty v = v) (hfit : fits ty v = true)
    (kk : ∀ G1, Wr G a (ci, N0, updV f kf v) G1 → zT p l e R s m args below meth c Q D B nL k n (pc + 3) st L z G1) : zT p l e R s m args below meth c Q D B nL k n pc (v :: .ref a :: st) L z G := z_put O hF hd hG hn hfit (kk _ (Wr.of _ _ _))
theorem y_putF {idx ci N0 kf a : Nat} {f : Nat → Value} {v : Value} {ty : FieldType} (O : zO p l s m args c D B sa nL cc own) (hF : zFp own idx ci kf ty true) (hini : meth.name = "<init>") (hd : decode cc pc = .ok (.putfield idx, 3)) (hG : G a = some (ci, N0, f)) (hn : narrow ty v = v) (hfit : fits ty v = true)
    (kk : ∀ G1, Wr G a (ci, N0, updV f kf v) G1 → zT p l e R s m args below meth c Q D B nL k n (pc + 3) st L z G1) : zT p l e R s m args below meth c Q D B nL k n pc (v :: .ref a :: st) L z G := z_putF O hF hini hd hG hn hfit (kk _ (Wr.of _ _ _))
theorem y_iast {a N : Nat} {f : Nat → Int32} {i x : Int32} (O : zO p l s m args c D B sa nL cc own) (hd : decode cc pc = .ok (.iastore, 1)) (hG : G a = some (zia N f)) (hin : vp_in i N)
    (kk : ∀ G1, Wr G a (zia N (upd f i.toNatClampNeg x)) G1 → zT p l e R s m args below meth c Q D B nL k n (pc + 1) st L z G1) : zT p l e R s m args below meth c Q D B nL k n pc (.int x :: .int i :: .ref a :: st) L z G := z_iast O hd hG hin (kk _ (Wr.of _ _ _))
theorem y_zast {a N : Nat} {f : Nat → Int32} {i x : Int32} (O : zO p l s m args c D B sa nL cc own) (hd : decode cc pc = .ok (.bastore, 1)) (hG : G a = some (zba N f)) (hin : vp_in i N) (hx : narrow .boolean (.int x) = .int x)
    (kk : ∀ G1, Wr G a (zba N (upd f i.toNatClampNeg x)) G1 → zT p l e R s m args below meth c Q D B nL k n (pc + 1) st L z G1) : zT p l e R s m args below meth c Q D B nL k n pc (.int x :: .int i :: .ref a :: st) L z G := z_zast O hd hG hin hx (kk _ (Wr.of _ _ _))
theorem y_cast {a N : Nat} {f : Nat → Int32} {i x : Int32} (O : zO p l s m args c D B sa nL cc own) (hd : decode cc pc = .ok (.castore, 1)) (hG : G a = some (zca N f)) (hin : vp_in i N) (hx : zc x)
    (kk : ∀ G1, Wr G a (zca N (upd f i.toNatClampNeg x)) G1 → zT p l e R s m args below meth c Q D B nL k n (pc + 1) st L z G1) : zT p l e R s m args below meth c Q D B nL k n pc (.int x :: .int i :: .ref a :: st) L z G := z_cast O hd hG hin hx (kk _ (Wr.of _ _ _))
theorem zsw_out {x : Int32} {lo hi : Int} (h : ∀ j : Int, lo ≤ j → j ≤ hi → ¬ x = Int32.ofInt j) : x.toInt < lo ∨ hi < x.toInt := by
  rcases Int.lt_or_le x.toInt lo with q | q
  · exact Or.inl q
  · rcases Int.lt_or_le hi x.toInt with q2 | q2
    · exact Or.inr q2
    · exact absurd (Int32.ofInt_toInt x).symm (h _ q q2)
theorem z_stretch {cs : Cell} {c1 : ClassId} {n0 n1 w : Nat} {f g : Nat → Int32} (hs : ∀ j, j < n0 → cs.slots[j]? = some (.int (f j))) (hw : w ≤ n0) : (arrV c1 n1 (fun j => .int (g j))).storeRun 0 (cs.stretch 0 w) = arrV c1 n1 (fun j => .int (va_cpy f g 0 0 w j)) := by
  have e : cs.stretch 0 w = (List.range w).map (fun i => Value.int (f i)) := by
    unfold Cell.stretch
    apply List.map_congr_left
    intro i hi
    have hi' := List.mem_range.mp hi
    rw [Array.getD_eq_getD_getElem?, Nat.zero_add, hs i (by omega)]
    rfl
  rw [e, Cell.storeRun, va_pairs]
  congr 1
  funext k
  simp only [va_cpy, List.length_map, List.length_range, Nat.add_zero, Nat.zero_add, Nat.sub_zero]
  by_cases h : 0 ≤ k ∧ k < w
  · rw [if_pos h, if_pos h, List.getD_eq_getElem?_getD, List.getElem?_map, List.getElem?_range (by omega)]
    rfl
  · rw [if_neg h, if_neg h]
/-- System.arraycopy of two rows of ints, from their beginnings -/
theorem y_copyG {idx a0 a1 n0 n1 : Nat} {f g : Nat → Int32} {w : Int32} (O : zO p l s m args c D B sa nL cc own) (h1 : Cond.methodLink own idx arraycopyName ∈ zgt) (h2 : Cond.native arraycopyName ∈ zgt) (h3 : Cond.static arraycopyName ∈ zgt) (h4 : Cond.initialized "java/lang/System" ∈ zgt) (hd : decode cc pc = .ok (.invokestatic idx, 3))
    (hsrc : ∀ (H : Heap) (locs : List Loc), zR D B z G H → va_S (zA B) s.heap H locs → ∃ cs : Cell, H[a0]? = some cs ∧ s.isArrayOf cs .int ∧ cs.vm ≠ .unknown ∧ n0 ≤ cs.slots.size ∧ ∀ j, j < n0 → cs.slots[j]? = some (.int (f j)))
    (hG1 : G a1 = some (zia n1 g)) (hw : ¬ w < 0) (hw0 : w.toNatClampNeg ≤ n0) (hw1 : w.toNatClampNeg ≤ n1)
    (hfr : 1 ≤ R.frames) (hlo : (st.map fun v => v.category).sum + (nativeFrameWords "java/lang/System" "arraycopy" 5 + 11) ≤ R.locals)
    (kk : ∀ G1, Wr G a1 (zia n1 (va_cpy f g 0 0 w.toNatClampNeg)) G1 → zT p l e R s m args below meth c Q D B nL k n (pc + 3) st L z G1) : zT p l e R s m args below meth c Q D B nL k n pc (.int w :: .int 0 :: .ref a1 :: .int 0 :: .ref a0 :: st) L z G := by
  intro H locs ls hR hS hl T hT X
  have hB1 := (hR.2 a1 _ hG1).1
  have hwI : w.toInt = (w.toNatClampNeg : Int) := by
    have hz0 : (0 : Int) ≤ w.toInt := by
      have := Int32.not_lt.mp hw
      simpa using Int32.le_iff_toInt_le.mp this
    show w.toInt = ((w.toInt.toNat : Nat) : Int)
    omega
  obtain ⟨cs, hc0, ⟨hv0, k0, hk0, cm0, hkk0⟩, hu0, hz0, hj0⟩ := hsrc H locs hR hS
  have hc1 : H[a1]? = some (arrV (D.2.2 100) n1 (fun j => .int (g j))) := hR.arr hG1 (Nat.le_refl _)
  obtain ⟨-, k1, hk1, cm1, hkk1⟩ := O.ty 0 rfl n1 (fun j => .int (g j))
  obtain ⟨vm', X', step⟩ := X.arraycopy O.1 O.2.2.2.1 (O.w h1) (O.w h2) (O.w h3) (O.w h4) (src := a0) (dst := a1) (cs := cs) (cd := arrV (D.2.2 100) n1 (fun j => .int (g j))) (srcPos := 0) (destPos := 0) (n := w) (by rw [hT]; exact hc0) (by rw [hT]; exact hc1)
    hv0 (fun _ h => by cases h) hu0 (fun h => by cases h) hk0 hk1 hkk0 hkk1 (by simp [refKind]) (by decide) (by decide) hw
    (by rw [hwI]; show ¬ (0 : Int) + _ > _; omega)
    (by rw [hwI, arrV_size]; show ¬ (0 : Int) + _ > _; omega)
    (fun vm₁ _ i hi => by
      have hi' : i < n0 := by omega
      have e : cs.slots.getD ((0 : Int32).toNatClampNeg + i) .null = .int (f i) := by
        rw [show (0 : Int32).toNatClampNeg = 0 from rfl, Nat.zero_add, Array.getD_eq_getD_getElem?, hj0 i hi']
        rfl
      refine ⟨?_, ?_⟩
      · rw [e]; rfl
      · rw [e]; exact trivial)
    (g := F0 m pc ls (.int w :: .int 0 :: .ref a1 :: .int 0 :: .ref a0 :: st)) rfl (hl.1.trans O.2.2.1.symm) (rest := st) rfl (by rw [O.2.1]; exact hd) hfr (by show 2 * 0 + _ + _ ≤ _; omega)
  have e1 : copied cs (arrV (D.2.2 100) n1 (fun j => .int (g j))) 0 0 w = arrV (D.2.2 100) n1 (fun j => .int (va_cpy f g 0 0 w.toNatClampNeg j)) := z_stretch hj0 hw0
  rw [e1] at X' step
  have hl1 : a1 < H.size := (Array.getElem?_eq_some_iff.mp hc1).1
  generalize hcn : arrV (D.2.2 100) n1 (fun j => .int (va_cpy f g 0 0 w.toNatClampNeg j)) = cn at X' step
  have hheap : ((T.setVm vm').setCell a1 cn).heap = H.setIfInBounds a1 cn := by rw [← hT]; rfl
  have oq : ∀ q : Nat, q ≠ a1 → (H.setIfInBounds a1 cn)[q]? = H[q]? := fun q hq => by simp [Array.getElem?_setIfInBounds, Ne.symm hq]
  obtain ⟨t, b1, b2⟩ := kk _ (Wr.of _ _ _) (H.setIfInBounds a1 cn) _ ls (hR.put (by simp) oq hB1 ⟨fun h => absurd h (by show ¬ (100 : Nat) < 100; decide), fun _ => ⟨by show (100 : Nat) < 106; decide, by show (H.setIfInBounds a1 cn)[a1]? = _; rw [← hcn]; simp [Array.getElem?_setIfInBounds, hl1]⟩⟩) ⟨by simp; exact hS.1, fun q g1 g2 => by
      rw [oq q (fun e => g2 (by rw [e]; exact hB1))]
      exact hS.2.1 q g1 g2, fun q hq => by
      rcases List.mem_append.mp hq with h | h
      · exact hS.2.2 q h
      · obtain ⟨z9, -, hz9⟩ := List.mem_map.mp h
        rw [← hz9]
        exact hB1⟩ hl _ hheap X'
  exact ⟨t, step t b1, b2⟩
/-- exceptions that the class throws -/
def zNM : List String := ["java/lang/RuntimeException", "java/lang/Exception"]
def zCD : List Cond := zCs.map (fun C => Cond.castable C C) ++ zDs.map Cond.declares
def zTw (own : String) (ik ic : Nat) (cls : String) : Prop := Cond.classLink own ik cls ∈ zgt ∧ Cond.initialized cls ∈ zgt ∧ (∀ w ∈ vx_atS own ic cls zNM, w ∈ zgt ∨ w ∈ zCD) ∧ Bundle.fit cls = true
theorem zNM_fit : ∀ n ∈ zNM, Bundle.fit n = true := by decide +kernel
theorem zCD_ot : ∀ w ∈ zCD, vx_ot w = true := by decide +kernel
theorem zTw.ot {own : String} {ik ic : Nat} {cls : String} (h : zTw own ik ic cls) : ∀ w ∈ Cond.classLink own ik cls :: Cond.initialized cls :: vx_atS own ic cls zNM, vx_ot w = true := by
  intro w hw
  have hm : w ∈ zgt ∨ w ∈ zCD := by
    rcases List.mem_cons.mp hw with rfl | hw
    · exact Or.inl h.1
    · rcases List.mem_cons.mp hw with rfl | hw
      · exact Or.inl h.2.1
      · exact h.2.2.1 w hw
  rcases hm with hm | hm
  · show (w.onTables || goodWord w) = true
    rw [zgt_good w hm, Bool.or_true]
  · exact zCD_ot w hm
theorem zCD_w (O : zO p l s m args c D B sa nL cc own) {w : Cond} (h : w ∈ zgt ∨ w ∈ zCD) : w.before args s = true := by
  rcases h with h | h
  · exact O.w h
  · rcases List.mem_append.mp h with h | h
    · obtain ⟨C, hC, rfl⟩ := List.mem_map.mp h
      exact va_Nw.use rfl (O.2.2.2.2.2.1.2.2.2.2.2.2.2.2.1 C hC)
    · obtain ⟨y, hy, rfl⟩ := List.mem_map.mp h
      exact va_Nw.use rfl (O.2.2.2.2.2.1.2.2.2.2.2.2.2.2.2.1 y hy)
theorem zR.more {D : zD} {B z : Nat} {G : zG} {H H1 : Heap} (h : zR D B z G H) (hq : ∀ q : Nat, q < H.size → H1[q]? = H[q]?) : zR D B H1.size G H1 := ⟨rfl, fun a e ha => ⟨(h.2 a e ha).1, (h.2 a e ha).2.kept (hq a (h.2 a e ha).2.lt)⟩⟩
theorem z_throw {ik ic is mc ms : Nat} {cls tx : String} {Po : Option Value → Nat → zG → Prop} {Px : String → Nat → zG → Prop} (O : zO p l s m args c D B sa nL cc "TrimmedLog") (hT : zTw "TrimmedLog" ik ic cls) (hk : (is, tx) ∈ zKs)
    (d0 : decode cc pc = .ok (.new ik, 3)) (d3 : decode cc (pc + 3) = .ok (.dup, 1)) (d4 : decode cc (pc + 4) = .ok (.ldc is, 2)) (d6 : decode cc (pc + 6) = .ok (.invokespecial ic, 3)) (d9 : decode cc (pc + 9) = .ok (.athrow, 1)) (hout : ∀ x ∈ c.exceptionTable.toList, False)
    (hf : 5 < R.frames) (hlo : (st.map fun v => v.category).sum + 82 ≤ R.locals) (hkc : k + 1 ≤ R.cells) (hns : n + 6 ≤ R.slots) (hlocks : meth.locks = false) (hp : ∀ z', Px cls z' G) (hmc : k + 1 ≤ mc) (hms : n + 6 ≤ ms) : zT p l e R s m args below meth c (zEnx below D B Po Px args s mc ms) D B nL k n pc st L z G := by
  intro H locs ls hR hS hl
  obtain ⟨a, ha⟩ := O.2.2.2.2.2.1.2.2.2.2.2.1 _ hk
  exact vx_throwS O.1 O.2.1 O.2.2.2.2.2.2.2 O.2.2.2.1 hT.2.2.2 zNM_fit (O.w hT.1) (O.w hT.2.1) ha (fun w hw => zCD_w O (hT.2.2.1 w hw)) hT.ot O.2.2.2.2.2.1.2.2.1 O.2.2.2.2.2.1.2.2.2.1 hS (hl.1.trans O.2.2.1.symm) d0 d3 d4 d6 d9 (fun x hx => (hout x hx).elim) hf hlo hkc hns hlocks
    (fun t _ h1 h2 => ⟨_, G, hR.more h2, hp _, Nat.le_trans hS.1 h1, fun q g1 g2 => (h2 q (Nat.lt_of_lt_of_le g1 hS.1)).trans (hS.2.1 q g1 g2)⟩) hS.2.2 hmc hms
theorem z_throwW {ik ic is mc ms : Nat} {cls tx : String} {Po : Option Value → Nat → zG → Prop} {Px : String → Nat → zG → Prop} (O : zO p l s m args c D B sa nL cc "TrimmedLog") (hT : zTw "TrimmedLog" ik ic cls) (hk : (is, tx) ∈ zKs)
    (d0 : decode cc pc = .ok (.new ik, 3)) (d3 : decode cc (pc + 3) = .ok (.dup, 1)) (d4 : decode cc (pc + 4) = .ok (.ldc_w is, 3)) (d7 : decode cc (pc + 7) = .ok (.invokespecial ic, 3)) (d10 : decode cc (pc + 10) = .ok (.athrow, 1)) (hout : ∀ x ∈ c.exceptionTable.toList, False)
    (hf : 5 < R.frames) (hlo : (st.map fun v => v.category).sum + 82 ≤ R.locals) (hkc : k + 1 ≤ R.cells) (hns : n + 6 ≤ R.slots) (hlocks : meth.locks = false) (hp : ∀ z', Px cls z' G) (hmc : k + 1 ≤ mc) (hms : n + 6 ≤ ms) : zT p l e R s m args below meth c (zEnx below D B Po Px args s mc ms) D B nL k n pc st L z G := by
  intro H locs ls hR hS hl
  obtain ⟨a, ha⟩ := O.2.2.2.2.2.1.2.2.2.2.2.1 _ hk
  exact vx_throwSW O.1 O.2.1 O.2.2.2.2.2.2.2 O.2.2.2.1 hT.2.2.2 zNM_fit (O.w hT.1) (O.w hT.2.1) ha (fun w hw => zCD_w O (hT.2.2.1 w hw)) hT.ot O.2.2.2.2.2.1.2.2.1 O.2.2.2.2.2.1.2.2.2.1 hS (hl.1.trans O.2.2.1.symm) d0 d3 d4 d7 d10 (fun x hx => (hout x hx).elim) hf hlo hkc hns hlocks
    (fun t _ h1 h2 => ⟨_, G, hR.more h2, hp _, Nat.le_trans hS.1 h1, fun q g1 g2 => (h2 q (Nat.lt_of_lt_of_le g1 hS.1)).trans (hS.2.1 q g1 g2)⟩) hS.2.2 hmc hms
/-- an exception that goes on to the caller -/
theorem z_outx {mc ms : Nat} {E : String} {Po : Option Value → Nat → zG → Prop} {Px : String → Nat → zG → Prop} (O : zO p l s m args c D B sa nL cc own) (hout : ∀ x ∈ c.exceptionTable.toList, False) (hlocks : meth.locks = false) (hk : k ≤ mc) (hn : n ≤ ms) (hp : Px E z G) : zTx p l e R s m args below meth c (zEnx below D B Po Px args s mc ms) D B nL k n pc E st L z G := by
  intro H locs ls ce q hR hS hl hce hcv hcl
  exact vx_out (fun x hx => (hout x hx).elim) hlocks hce hcv hcl (fun t ht _ => ⟨z, G, by rw [ht]; exact hR, hp, hS.F ht⟩) hS.2.2 hk hn
abbrev zrem (x y : Int32) : Int32 := x - x / y * y
abbrev zreml (x y : Int64) : Int64 := x - x / y * y
abbrev zshl (x : Int64) (y : Int32) : Int64 := x <<< (y.toInt64 &&& 63)
abbrev zushr (x : Int64) (y : Int32) : Int64 := (x.toUInt64 >>> (y.toInt64.toUInt64 &&& Int64.toUInt64 63)).toInt64
abbrev zi2c (x : Int32) : Int32 := (x.toUInt32 % 65536).toInt32
abbrev zmin (x y : Int32) : Int32 := if y < x then y else x
abbrev zmax (x y : Int32) : Int32 := if x < y then y else x
end ZM

section ZN
variable {p : Program} {l : Launch} {e : Env} {R : Room} {s : State} {m : MethodId} {args : Array Value} {below : List Frame} {meth : Method} {c : Code} {Q : State → Prop} {D : zD} {B nL : Nat} {sa : Nat → Nat} {cc : ByteArray} {own : String} {k n pc z : Nat} {st : List Value} {L : zL} {G : zG}
/-- a new cell, behind all -/
theorem zR.pushW {H H1 : Heap} {e : zE} (h : zR D B z G H) (hz : H1.size = z + 1) (oq : ∀ q : Nat, q < z → H1[q]? = H[q]?) (hB : B ≤ z) (he : zAt D z e H1) : zR D B (z + 1) (zU G z e) H1 :=
  h.push (hz.trans (by rw [h.1])) (fun q hq => oq q (by rw [← h.1]; exact hq)) hB he
theorem zS_push {H H1 : Heap} {H0 : Heap} {locs : List Loc} {A : Nat → Prop} (hS : va_S A H0 H locs) (hz : H1.size = H.size + 1) (oq : ∀ q : Nat, q < H.size → H1[q]? = H[q]?) : va_S A H0 H1 locs :=
  ⟨Nat.le_trans hS.1 (by omega), fun x h1 h2 => (oq x (Nat.lt_of_lt_of_le h1 hS.1)).trans (hS.2.1 x h1 h2), hS.2.2⟩
/-- new C: the class of that place -/
def zNw (own : String) (idx ci : Nat) (f : Nat → Value) (N : Nat) : Prop := ∃ (C : String) (T : u_T) (ty : Nat → FieldType), vwCl[ci]? = some (C, T, N) ∧ ci < 100 ∧ (∀ w ∈ u_ws C T N, w ∈ zgt) ∧ (∀ k, k < N → parseFieldDescriptor (T k).2.2.1 = some (ty k)) ∧ Cond.classLink own idx C ∈ zgt ∧ Cond.instantiable C N ∈ zgt ∧ Cond.initialized C ∈ zgt ∧ ∀ k, k < N → defaultValue (ty k) = f k
theorem y_new {idx ci N : Nat} {f : Nat → Value} (O : zO p l s m args c D B sa nL cc own) (hF : zNw own idx ci f N) (hd : decode cc pc = .ok (.new idx, 3)) (hk : k + 1 ≤ R.cells) (hn : n + N ≤ R.slots)
    (kk : ∀ G1, Wr G z (ci, N, f) G1 → zT p l e R s m args below meth c Q D B nL (k + 1) (n + N) (pc + 3) (.ref z :: st) L (z + 1) G1) : zT p l e R s m args below meth c Q D B nL k n pc st L z G := by
  intro H locs ls hR hS hl
  obtain ⟨C, T, ty, hc, h100, hin, hty, hcl, hins, hini, hfs⟩ := hF
  have hKn := O.2.2.2.2.2.1.1.1 ci _ hc
  refine W.newcK O.1 O.2.1 O.2.2.2.1 (O.w hcl) (O.w hins) (O.w hini) rfl hd hk hn hKn.2.1 hR.1 fun H1 kC hkC e1 z1 o1 => ?_
  refine kk _ (Wr.of _ _ _) H1 _ ls (hR.pushW z1 o1 (by have := hS.1; have := O.2.2.2.2.2.2.1; have := hR.1; omega) ⟨fun _ => ⟨⟨_, hc, rfl⟩, ?_⟩, fun h => absurd h100 (Nat.not_lt.mpr h)⟩) (zS_push hS (z1.trans (by rw [hR.1])) (fun q hq => o1 q (by rw [← hR.1]; exact hq))) hl
  exact (u_born ty O.2.2.2.2.1 hin hKn hkC e1 hty).to hfs
/-- new rows of numbers -/
theorem y_newa {atype : ArrayType} {kd t0 : Nat} {N : Nat} {x : Int32} {ty : FieldType} {f : Nat → Value} (O : zO p l s m args c D B sa nL cc own) (hkd : 100 ≤ kd) (hkd2 : kd < 106) (ht : (ztys D)[t0]? = some (D.2.2 kd, ty)) (hty : newarray.typeOf atype = ty) (hra : va_RA s (D.2.2 kd) ty → s.vm.findClass ("[" ++ ty.toString) = some (D.2.2 kd)) (harr : Cond.arrayClass ty ∈ zgt) (hd : decode cc pc = .ok (.newarray atype, 2))
    (hx : ¬ x < 0) (hN : x.toNatClampNeg = N) (hb : N * componentBytes ty ≤ 536870912) (hk : k + 1 ≤ R.cells) (hn : n + N ≤ R.slots) (hf : f = fun _ => defaultValue ty)
    (kk : ∀ G1, Wr G z (kd, N, f) G1 → zT p l e R s m args below meth c Q D B nL (k + 1) (n + N) (pc + 2) (.ref z :: st) L (z + 1) G1) : zT p l e R s m args below meth c Q D B nL k n pc (.int x :: st) L z G := by
  intro H locs ls hR hS hl
  subst hty
  refine va_newaK O.1 O.2.1 (O.w harr) rfl hd rfl hx hN hb hk hn hR.1 fun H1 cA e1 z1 o1 hAr hNm => ?_
  have hcA : cA = D.2.2 kd := Option.some.inj (hNm.symm.trans (hra (O.2.2.2.2.2.1.1.2 t0 _ ht).2))
  subst hcA
  refine kk _ (Wr.of _ _ _) H1 _ ls (hR.pushW z1 o1 (by have := hS.1; have := O.2.2.2.2.2.2.1; have := hR.1; omega) ⟨fun h => absurd hkd (Nat.not_le.mpr h), fun _ => ⟨hkd2, ?_⟩⟩) (zS_push hS (z1.trans (by rw [hR.1])) (fun q hq => o1 q (by rw [← hR.1]; exact hq))) hl
  rw [hf]
  exact e1
/-- new rows of references -/
theorem y_anew {idx kd t0 N : Nat} {x : Int32} {C : String} (O : zO p l s m args c D B sa nL cc own) (hkd : 100 ≤ kd) (hkd2 : kd < 106) (ht : (ztys D)[t0]? = some (D.2.2 kd, .object C)) (hC : C ∈ zAs) (hcl : Cond.classLink own idx C ∈ zgt) (hd : decode cc pc = .ok (.anewarray idx, 3))
    (hx : ¬ x < 0) (hN : x.toNatClampNeg = N) (hb : N * 4 ≤ 536870912) (hk : k + 1 ≤ R.cells) (hn : n + N ≤ R.slots)
    (kk : ∀ G1, Wr G z (kd, N, fun _ => .null) G1 → zT p l e R s m args below meth c Q D B nL (k + 1) (n + N) (pc + 3) (.ref z :: st) L (z + 1) G1) : zT p l e R s m args below meth c Q D B nL k n pc (.int x :: st) L z G := by
  intro H locs ls hR hS hl
  subst hN
  have hz : H.size = z := hR.1
  subst hz
  obtain ⟨kA0, comp0, g1, g2, g3, g4⟩ := (O.2.2.2.2.2.1.1.2 t0 _ ht).2
  refine W.anew O.1 O.2.1 O.2.2.2.1 (O.w hcl) (va_AO.use (O.2.2.2.2.2.1.2.2.2.2.2.2.2.2.2.2 C hC)) rfl hd rfl hx hb hk hn fun cA kA comp f1 f2 f3 f4 => ?_
  have hcA : cA = D.2.2 kd := Option.some.inj (f1.symm.trans g4)
  subst hcA
  generalize hH1 : H.push ({ cls := D.2.2 kd, slots := Array.replicate x.toNatClampNeg .null, vm := .none } : Cell) = H1
  have z1 : H1.size = H.size + 1 := by rw [← hH1, Array.size_push]
  have e1 : H1[H.size]? = some (arrV (D.2.2 kd) x.toNatClampNeg (fun _ => .null)) := by rw [← hH1, Array.getElem?_push_size, ← arrV_new]
  have o1 : ∀ q : Nat, q < H.size → H1[q]? = H[q]? := fun q hq => by rw [← hH1, Array.getElem?_push, if_neg (Nat.ne_of_lt hq)]
  exact kk _ (Wr.of _ _ _) H1 _ ls (hR.pushW z1 o1 (by have := hS.1; have := O.2.2.2.2.2.2.1; omega) ⟨fun h => absurd hkd (Nat.not_le.mpr h), fun _ => ⟨hkd2, e1⟩⟩) (zS_push hS z1 o1) hl
/-- a row of references gets one -/
theorem y_aast {a v kd t0 ci N N0 : Nat} {f f0 : Nat → Value} {i : Int32} {r : vw_C} (O : zO p l s m args c D B sa nL cc own) (hkd : 100 ≤ kd) (hkd2 : kd < 106) (ht : (ztys D)[t0]? = some (D.2.2 kd, .object r.1)) (hci : ci < 100) (hc : vwCl[ci]? = some r) (hd : decode cc pc = .ok (.aastore, 1)) (hG : G a = some (kd, N, f)) (hV : G v = some (ci, N0, f0)) (hin : vp_in i N)
    (kk : ∀ G1, Wr G a (kd, N, updV f i.toNatClampNeg (.ref v)) G1 → zT p l e R s m args below meth c Q D B nL k n (pc + 1) st L z G1) : zT p l e R s m args below meth c Q D B nL k n pc (.ref v :: .int i :: .ref a :: st) L z G := by
  intro H locs ls hR hS hl
  have hlt : i.toNatClampNeg < N := Nat.not_le.mp fun q => hin (Or.inr q)
  have h0 : ¬ i < 0 := fun q => hin (Or.inl q)
  have hBa := (hR.2 a _ hG).1
  obtain ⟨-, cellV, g1, g2, g3, -⟩ := (hR.2 v _ hV).2.1 hci
  have hcls := (O.2.2.2.2.2.1.1.1 ci r hc).2
  obtain ⟨kA, comp, k1, k2, k3, -⟩ := (O.2.2.2.2.2.1.1.2 t0 _ ht).2
  have hcomp : comp = D.1 ci := Option.some.inj (k3.symm.trans hcls.1)
  subst hcomp
  obtain ⟨kC, hkC, -⟩ := hcls.2
  have hcell := hR.arr hG hkd
  refine W.aast O.1 O.2.1 hcell (fun q h => by cases h) (fun h => by cases h) k1 k2 rfl hkC ⟨h0, by rw [arrV_size]; exact hlt⟩ g1 (fun q h => by rw [g3] at h; cases h) (by rw [g2]; exact hkC) (by rw [g2]; exact va_assign hcls) rfl rfl hd fun H1 e1 e2 e3 => ?_
  refine kk _ (Wr.of _ _ _) H1 _ ls (hR.put e2 e3 hBa ⟨fun h => absurd hkd (Nat.not_le.mpr h), fun _ => ⟨hkd2, ?_⟩⟩) (hS.put e2 e3 hBa) hl
  rw [e1, arrV_store]
end ZN

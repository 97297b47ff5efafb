section ZH
variable {p : Program} {l : Launch} {e : Env} {R : Room} {s : State} {m : MethodId} {args : Array Value} {below : List Frame} {meth : Method} {c : Code} {Q : State → Prop} {D : zD} {B nL : Nat} {sa : Nat → Nat} {cc : ByteArray} {own : String} {k n pc z : Nat} {st : List Value} {L : zL} {G : zG}
/-- a field's link: the class of that place in vwCl, its field of that place -/
def zFl (own : String) (idx ci kf : Nat) : Prop := ∃ (C : String) (T : u_T) (N : Nat), vwCl[ci]? = some (C, T, N) ∧ ci < 100 ∧ kf < N ∧ (∀ w ∈ u_ws C T N, w ∈ zgt) ∧ Cond.fieldLink own idx (T kf).1 (T kf).2.1 (T kf).2.2.1 ∈ zgt
/-- the same of a field that may be written -/
def zFp (own : String) (idx ci kf : Nat) (ty : FieldType) (fin : Bool) : Prop := ∃ (C : String) (T : u_T) (N : Nat) (ty0 : Nat → FieldType), vwCl[ci]? = some (C, T, N) ∧ ci < 100 ∧ kf < N ∧ (∀ w ∈ u_ws C T N, w ∈ zgt) ∧ Cond.fieldLink own idx (T kf).1 (T kf).2.1 (T kf).2.2.1 ∈ zgt ∧ (∀ k, k < N → parseFieldDescriptor (T k).2.2.1 = some (ty0 k)) ∧ (∀ a, a < N → ∀ b, b < N → a ≠ b → (T a).2.1 ≠ (T b).2.1) ∧ (T kf).2.2.2 = fin ∧ ty0 kf = ty ∧ (fin = true → (T kf).1 = own)
theorem z_get {idx ci N0 kf a : Nat} {f : Nat → Value} {v : Value} (O : zO p l s m args c D B sa nL cc own) (hF : zFl own idx ci kf) (hd : decode cc pc = .ok (.getfield idx, 3)) (hG : G a = some (ci, N0, f)) (hv : f kf = v)
    (kk : zT p l e R s m args below meth c Q D B nL k n (pc + 3) (v :: st) L z G) : zT p l e R s m args below meth c Q D B nL k n pc (.ref a :: st) L z G := by
  intro H locs ls hR hS hl
  obtain ⟨C, T, N, hc, h100, hk, hin, hw⟩ := hF
  obtain ⟨⟨r, h1, h2⟩, cell, q1, q2, q3, q4⟩ := (hR.2 a _ hG).2.1 h100
  cases h1.symm.trans hc
  obtain ⟨hS', hfc, kC, hkC, hkind⟩ := O.2.2.2.2.2.1.1.1 ci _ hc
  obtain ⟨cf, kfl, fi, fd, hi, hsl⟩ := hS' kf hk
  refine W.getf O.1 O.2.1 O.2.2.2.1 (O.2.2.2.2.1 _ hw) hi (u_facts hfc hkC (u_lays O.2.2.2.2.1 hin hk) hi).1 q1 (by rw [q3]; exact fun h => by cases h) (v := v) ?_ rfl rfl hd (kk H locs ls hR hS hl)
  subst h2
  rw [hsl, q4 kf hk]
  exact congrArg some hv
theorem zt_set {cell : Cell} {N : Nat} {iS : Nat → Nat} {f : Nat → Value} (q4 : ∀ k, k < N → cell.slots[iS k]? = some (f k)) (hap : ∀ x y, x < N → y < N → x ≠ y → iS x ≠ iS y) {kf : Nat} (hk : kf < N) (v : Value) : ∀ j, j < N → (cell.setSlot (iS kf) v).slots[iS j]? = some (updV f kf v j) := t_set q4 hap hk v
theorem z_put {idx ci N0 kf a : Nat} {f : Nat → Value} {v : Value} {ty : FieldType} (O : zO p l s m args c D B sa nL cc own) (hF : zFp own idx ci kf ty false) (hd : decode cc pc = .ok (.putfield idx, 3)) (hG : G a = some (ci, N0, f)) (hn : narrow ty v = v) (hfit : fits ty v = true)
    (kk : zT p l e R s m args below meth c Q D B nL k n (pc + 3) st L z (zU G a (ci, N0, updV f kf v))) : zT p l e R s m args below meth c Q D B nL k n pc (v :: .ref a :: st) L z G := by
  intro H locs ls hR hS hl
  obtain ⟨C, T, N, ty0, hc, h100, hk, hin, hw, hty, hnm, hfin, het, -⟩ := hF
  obtain ⟨hBa, h0⟩ := hR.2 a _ hG
  obtain ⟨⟨r, h1, h2⟩, cell, q1, q2, q3, q4⟩ := h0.1 h100
  cases h1.symm.trans hc
  subst h2
  subst het
  have hK := O.2.2.2.2.2.1.1
  have hap := va_apart (own := own) O.2.2.2.2.1 hin ty0 hty hnm hK hc
  obtain ⟨hS', hfc, kC, hkC, hkind⟩ := hK.1 ci _ hc
  obtain ⟨cf, kfl, fi, fd, hi, hsl⟩ := hS' kf hk
  have hlay := O.2.2.2.2.1 _ (hin _ (u_in_lay hk))
  unfold u_lay at hlay
  rw [if_neg (by rw [hfin]; decide)] at hlay
  have hst := (u_facts hfc hkC (u_lays O.2.2.2.2.1 hin hk) hi).1
  have h6 := u_store hfc hkC hkind hlay hi (hty kf hk) hn hfit
  refine W.putK O.1 O.2.1 (f := fd) ⟨O.2.2.2.1, O.2.2.2.2.1 _ hw, ⟨_, _, _, hi⟩, hst⟩ (by rw [q2]; exact h6) q1 q3 (by rw [hsl]; exact k2_hasslot (q4 kf hk)) rfl rfl hd fun H' e1 e2 e3 => ?_
  rw [hsl] at e1 ⊢
  refine kk H' _ ls (hR.put e2 e3 hBa ⟨fun _ => ⟨⟨_, hc, rfl⟩, ?_⟩, fun h => absurd h100 (Nat.not_lt.mpr h)⟩) (hS.put e2 e3 hBa) hl
  exact ⟨_, e1, q2, q3, zt_set q4 hap hk v⟩
theorem z_putF {idx ci N0 kf a : Nat} {f : Nat → Value} {v : Value} {ty : FieldType} (O : zO p l s m args c D B sa nL cc own) (hF : zFp own idx ci kf ty true) (hini : meth.name = "<init>") (hd : decode cc pc = .ok (.putfield idx, 3)) (hG : G a = some (ci, N0, f)) (hn : narrow ty v = v) (hfit : fits ty v = true)
    (kk : zT p l e R s m args below meth c Q D B nL k n (pc + 3) st L z (zU G a (ci, N0, updV f kf v))) : zT p l e R s m args below meth c Q D B nL k n pc (v :: .ref a :: st) L z G := by
  intro H locs ls hR hS hl
  obtain ⟨C, T, N, ty0, hc, h100, hk, hin, hw, hty, hnm, hfin, het, hdecl⟩ := hF
  obtain ⟨hBa, h0⟩ := hR.2 a _ hG
  obtain ⟨⟨r, h1, h2⟩, cell, q1, q2, q3, q4⟩ := h0.1 h100
  cases h1.symm.trans hc
  subst h2
  subst het
  have hK := O.2.2.2.2.2.1.1
  have hap := va_apart (own := own) O.2.2.2.2.1 hin ty0 hty hnm hK hc
  obtain ⟨hS', hfc, kC, hkC, hkind⟩ := hK.1 ci _ hc
  obtain ⟨cf, kfl, fi, fd, hi, hsl⟩ := hS' kf hk
  have hlay := O.2.2.2.2.1 _ (hin _ (u_in_lay hk))
  unfold u_lay at hlay
  rw [if_pos hfin] at hlay
  have hst := (u_facts hfc hkC (u_lays O.2.2.2.2.1 hin hk) hi).1
  have hown := O.2.2.2.1
  have hcf : m.cls = cf := by
    obtain ⟨_, _, c', _, _, _, -, -, hf', -, -, -, hown2, -⟩ := Cond.laysFinal_spec hlay
    have e1 : c' = cf := by have := hi.symm.trans hf'; simp at this; exact this.1.symm
    rw [hdecl rfl] at hown2
    rw [← e1]; exact Option.some.inj (hown.symm.trans hown2)
  have h6 := u_fits hfc hkC hkind (Or.inr hlay) hi (hty kf hk) hn hfit
  refine W.putFinK O.1 O.2.1 hown (O.2.2.2.2.1 _ hw) hi hst hcf hini (by rw [q2]; exact h6) q1 q3 (by rw [hsl]; exact k2_hasslot (q4 kf hk)) rfl rfl hd fun H' e1 e2 e3 => ?_
  rw [hsl] at e1 ⊢
  refine kk H' _ ls (hR.put e2 e3 hBa ⟨fun _ => ⟨⟨_, hc, rfl⟩, ?_⟩, fun h => absurd h100 (Nat.not_lt.mpr h)⟩) (hS.put e2 e3 hBa) hl
  exact ⟨_, e1, q2, q3, zt_set q4 hap hk v⟩
/-- rows of numbers -/
abbrev zia (N : Nat) (f : Nat → Int32) : zE := (100, N, fun j => .int (f j))
abbrev zba (N : Nat) (f : Nat → Int32) : zE := (101, N, fun j => .int (f j))
abbrev zca (N : Nat) (f : Nat → Int32) : zE := (102, N, fun j => .int (f j))
abbrev zla (N : Nat) (f : Nat → Int64) : zE := (103, N, fun j => .long (f j))
theorem zR.arr {H : Heap} (hR : zR D B z G H) {a kd N : Nat} {f : Nat → Value} (hG : G a = some (kd, N, f)) (h : 100 ≤ kd) : H[a]? = some (arrV (D.2.2 kd) N f) := ((hR.2 a _ hG).2.2 h).2
theorem zO.ty (O : zO p l s m args c D B sa nL cc own) (t0 : Nat) {q : ClassId × FieldType} (ht : (ztys D)[t0]? = some q) : ArrOfT s q.1 q.2 := (O.2.2.2.2.2.1.1.2 t0 q ht).1
theorem z_arr_in {kd N : Nat} {f : Nat → Value} {i : Int32} (hin : vp_in i N) : ¬ (i < 0 ∨ (arrV (D.2.2 kd) N f).slots.size ≤ i.toNatClampNeg) := by rw [arrV_size]; exact hin
theorem z_arr_v {kd N : Nat} {f : Nat → Value} {i : Int32} (hin : vp_in i N) : (arrV (D.2.2 kd) N f).slots[i.toNatClampNeg]? = some (f i.toNatClampNeg) := arrV_read _ _ (Nat.not_le.mp fun q => hin (Or.inr q))
theorem z_iald {a N : Nat} {f : Nat → Int32} {i : Int32} (O : zO p l s m args c D B sa nL cc own) (hd : decode cc pc = .ok (.iaload, 1)) (hG : G a = some (zia N f)) (hin : vp_in i N)
    (kk : zT p l e R s m args below meth c Q D B nL k n (pc + 1) (.int (f i.toNatClampNeg) :: st) L z G) : zT p l e R s m args below meth c Q D B nL k n pc (.int i :: .ref a :: st) L z G := fun H locs ls hR hS hl =>
  W.iald O.1 O.2.1 (hR.arr hG (Nat.le_refl _)) (O.ty 0 rfl N _) (fun q => by cases q) (z_arr_in hin) (z_arr_v hin) rfl rfl hd (kk H locs ls hR hS hl)
theorem z_zald {a N : Nat} {f : Nat → Int32} {i : Int32} (O : zO p l s m args c D B sa nL cc own) (hd : decode cc pc = .ok (.baload, 1)) (hG : G a = some (zba N f)) (hin : vp_in i N)
    (kk : zT p l e R s m args below meth c Q D B nL k n (pc + 1) (.int (f i.toNatClampNeg) :: st) L z G) : zT p l e R s m args below meth c Q D B nL k n pc (.int i :: .ref a :: st) L z G := fun H locs ls hR hS hl =>
  W.zald O.1 O.2.1 (hR.arr hG (by decide)) (O.ty 1 rfl N _) (fun q => by cases q) (z_arr_in hin) (z_arr_v hin) rfl rfl hd (kk H locs ls hR hS hl)
theorem z_cald {a N : Nat} {f : Nat → Int32} {i : Int32} (O : zO p l s m args c D B sa nL cc own) (hd : decode cc pc = .ok (.caload, 1)) (hG : G a = some (zca N f)) (hin : vp_in i N)
    (kk : zT p l e R s m args below meth c Q D B nL k n (pc + 1) (.int (f i.toNatClampNeg) :: st) L z G) : zT p l e R s m args below meth c Q D B nL k n pc (.int i :: .ref a :: st) L z G := fun H locs ls hR hS hl =>
  W.cald O.1 O.2.1 (hR.arr hG (by decide)) (O.ty 2 rfl N _) (fun q => by cases q) (z_arr_in hin) (z_arr_v hin) rfl rfl hd (kk H locs ls hR hS hl)
theorem z_rald {a N : Nat} {f : Nat → Value} {i : Int32} (O : zO p l s m args c D B sa nL cc own) (hd : decode cc pc = .ok (.aaload, 1)) (hG : G a = some (104, N, f)) (hin : vp_in i N)
    (kk : zT p l e R s m args below meth c Q D B nL k n (pc + 1) (f i.toNatClampNeg :: st) L z G) : zT p l e R s m args below meth c Q D B nL k n pc (.int i :: .ref a :: st) L z G := fun H locs ls hR hS hl =>
  W.aald O.1 O.2.1 (hR.arr hG (by decide)) (O.ty 4 rfl N _) rfl (fun q => by cases q) (z_arr_in hin) (z_arr_v hin) rfl rfl hd (kk H locs ls hR hS hl)
theorem z_sald {a N : Nat} {f : Nat → Value} {i : Int32} (O : zO p l s m args c D B sa nL cc own) (hd : decode cc pc = .ok (.aaload, 1)) (hG : G a = some (105, N, f)) (hin : vp_in i N)
    (kk : zT p l e R s m args below meth c Q D B nL k n (pc + 1) (f i.toNatClampNeg :: st) L z G) : zT p l e R s m args below meth c Q D B nL k n pc (.int i :: .ref a :: st) L z G := fun H locs ls hR hS hl =>
  W.aald O.1 O.2.1 (hR.arr hG (by decide)) (O.ty 5 rfl N _) rfl (fun q => by cases q) (z_arr_in hin) (z_arr_v hin) rfl rfl hd (kk H locs ls hR hS hl)
theorem z_alen {a N : Nat} {f : Nat → Int32} {v : Int32} (O : zO p l s m args c D B sa nL cc own) (hd : decode cc pc = .ok (.arraylength, 1)) (hG : G a = some (zia N f)) (hv : Int32.ofNat N = v)
    (kk : zT p l e R s m args below meth c Q D B nL k n (pc + 1) (.int v :: st) L z G) : zT p l e R s m args below meth c Q D B nL k n pc (.ref a :: st) L z G := fun H locs ls hR hS hl =>
  W.alen O.1 O.2.1 (hR.arr hG (Nat.le_refl _)) (O.ty 0 rfl N _) (by rw [arrV_size]; exact hv) rfl rfl hd (kk H locs ls hR hS hl)
theorem z_iast {a N : Nat} {f : Nat → Int32} {i x : Int32} (O : zO p l s m args c D B sa nL cc own) (hd : decode cc pc = .ok (.iastore, 1)) (hG : G a = some (zia N f)) (hin : vp_in i N)
    (kk : zT p l e R s m args below meth c Q D B nL k n (pc + 1) st L z (zU G a (zia N (upd f i.toNatClampNeg x)))) : zT p l e R s m args below meth c Q D B nL k n pc (.int x :: .int i :: .ref a :: st) L z G := by
  intro H locs ls hR hS hl
  have hBa := (hR.2 a _ hG).1
  refine W.iast O.1 O.2.1 (hR.arr hG (Nat.le_refl _)) (O.ty 0 rfl N _) (fun q => by cases q) (z_arr_in hin) rfl rfl hd fun H1 e1 e2 e3 => ?_
  refine kk H1 _ ls (hR.put e2 e3 hBa ⟨fun h => absurd h (by show ¬ (100 : Nat) < 100; decide), fun _ => ⟨by show (100 : Nat) < 106; decide, ?_⟩⟩) (hS.put e2 e3 hBa) hl
  rw [e1, arrV_store]
  congr 2
  funext q
  by_cases hq : q = i.toNatClampNeg <;> simp [updV, upd, hq]
theorem z_zast {a N : Nat} {f : Nat → Int32} {i x : Int32} (O : zO p l s m args c D B sa nL cc own) (hd : decode cc pc = .ok (.bastore, 1)) (hG : G a = some (zba N f)) (hin : vp_in i N) (hx : narrow .boolean (.int x) = .int x)
    (kk : zT p l e R s m args below meth c Q D B nL k n (pc + 1) st L z (zU G a (zba N (upd f i.toNatClampNeg x)))) : zT p l e R s m args below meth c Q D B nL k n pc (.int x :: .int i :: .ref a :: st) L z G := by
  intro H locs ls hR hS hl
  have hBa := (hR.2 a _ hG).1
  refine W.zast O.1 O.2.1 (hR.arr hG (by decide)) (O.ty 1 rfl N _) (fun q => by cases q) (z_arr_in hin) rfl rfl hd fun H1 e1 e2 e3 => ?_
  refine kk H1 _ ls (hR.put e2 e3 hBa ⟨fun h => absurd h (by show ¬ (101 : Nat) < 100; decide), fun _ => ⟨by show (101 : Nat) < 106; decide, ?_⟩⟩) (hS.put e2 e3 hBa) hl
  rw [e1, arrV_store]
  congr 2
  funext q
  by_cases hq : q = i.toNatClampNeg <;> simp [updV, upd, hq, hx]
theorem z_cast {a N : Nat} {f : Nat → Int32} {i x : Int32} (O : zO p l s m args c D B sa nL cc own) (hd : decode cc pc = .ok (.castore, 1)) (hG : G a = some (zca N f)) (hin : vp_in i N) (hx : narrow .char (.int x) = .int x)
    (kk : zT p l e R s m args below meth c Q D B nL k n (pc + 1) st L z (zU G a (zca N (upd f i.toNatClampNeg x)))) : zT p l e R s m args below meth c Q D B nL k n pc (.int x :: .int i :: .ref a :: st) L z G := by
  intro H locs ls hR hS hl
  have hBa := (hR.2 a _ hG).1
  refine W.cast O.1 O.2.1 (hR.arr hG (by decide)) (O.ty 2 rfl N _) (fun q => by cases q) (z_arr_in hin) rfl rfl hd fun H1 e1 e2 e3 => ?_
  refine kk H1 _ ls (hR.put e2 e3 hBa ⟨fun h => absurd h (by show ¬ (102 : Nat) < 100; decide), fun _ => ⟨by show (102 : Nat) < 106; decide, ?_⟩⟩) (hS.put e2 e3 hBa) hl
  rw [e1, arrV_store]
  congr 2
  funext q
  by_cases hq : q = i.toNatClampNeg <;> simp [updV, upd, hq, hx]
/-- the heap under another name -/
theorem z_eqG {G' : zG} (h : G = G') (kk : zT p l e R s m args below meth c Q D B nL k n pc st L z G') : zT p l e R s m args below meth c Q D B nL k n pc st L z G := h ▸ kk
theorem z_subL {L' : zL} (h : ∀ (i : Nat) (v : Value), L'[i]? = some (some v) → L[i]? = some (some v)) (kk : zT p l e R s m args below meth c Q D B nL k n pc st L' z G) : zT p l e R s m args below meth c Q D B nL k n pc st L z G := fun H locs ls hR hS hl => kk H locs ls hR hS (hl.sub h)
theorem z_widen {k' n' : Nat} (h1 : k ≤ k') (h2 : n ≤ n') (kk : zT p l e R s m args below meth c Q D B nL k' n' pc st L z G) : zT p l e R s m args below meth c Q D B nL k n pc st L z G := fun H locs ls hR hS hl => W.widen h1 h2 (kk H locs ls hR hS hl)
/-- the three rows of the class -/
theorem z_gets {idx j : Nat} (O : zO p l s m args c D B sa nL cc own) (hj : j < 3) (hw : Cond.fieldLink own idx "TrimmedLog" (zSn j) "[I" ∈ zgt) (hd : decode cc pc = .ok (.getstatic idx, 3))
    (kk : zT p l e R s m args below meth c Q D B nL k n (pc + 3) (.ref (sa j) :: st) L z G) : zT p l e R s m args below meth c Q D B nL k n pc st L z G := fun H locs ls hR hS hl =>
  va_gets O.1 O.2.1 (O.2.2.2.2.2.1.2.1 j hj).1 hS O.2.2.2.1 (O.2.2.2.2.1 _ hw) (fun _ h => h) hd (kk H locs ls hR hS hl)
theorem z_sti {j : Nat} {i v : Int32} (O : zO p l s m args c D B sa nL cc own) (hj : j < 3) (hd : decode cc pc = .ok (.iaload, 1)) (hin : vp_in i 6) (hv : zSv j i.toNatClampNeg = v)
    (kk : zT p l e R s m args below meth c Q D B nL k n (pc + 1) (.int v :: st) L z G) : zT p l e R s m args below meth c Q D B nL k n pc (.int i :: .ref (sa j) :: st) L z G := fun H locs ls hR hS hl =>
  va_ti O.1 O.2.1 (O.2.2.2.2.2.1.2.1 j hj).2 hS hin (by show Value.int _ = _; rw [hv]) hd (kk H locs ls hR hS hl)
theorem z_stl {j : Nat} (O : zO p l s m args c D B sa nL cc own) (hj : j < 3) (hd : decode cc pc = .ok (.arraylength, 1))
    (kk : zT p l e R s m args below meth c Q D B nL k n (pc + 1) (.int 6 :: st) L z G) : zT p l e R s m args below meth c Q D B nL k n pc (.ref (sa j) :: st) L z G := by
  intro H locs ls hR hS hl
  obtain ⟨cell, h1, h2, h3, h4, h5, h6, h7⟩ := (O.2.2.2.2.2.1.2.1 j hj).2
  exact W.alen O.1 O.2.1 (by rw [hS.2.1 _ (Array.getElem?_eq_some_iff.mp h1).1 h7]; exact h1) h2 (by rw [h5]; rfl) rfl rfl hd (kk H locs ls hR hS hl)
end ZH

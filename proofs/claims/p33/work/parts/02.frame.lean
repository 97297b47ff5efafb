/-! A method's walk over values: cells by address as a kind, a size and what they hold; locals as a list of what is known. -/
abbrev zE : Type := Nat × Nat × (Nat → Value)
abbrev zG : Type := Nat → Option zE
abbrev zD : Type := (Nat → ClassId) × (Nat → Nat → Nat) × (Nat → ClassId)
abbrev zL : Type := List (Option Value)
/-- arrays: 100 int, 101 boolean, 102 char, 103 long, 104 readers, 105 states; below 100: the class of that place in vwCl -/
def zty : Nat → FieldType := fun k => match k with
  | 100 => .int
  | 101 => .boolean
  | 102 => .char
  | 103 => .long
  | 104 => .object "TrimmedLog$Reader"
  | _ => .object "TrimmedLog$State"
def zAt (D : zD) (a : Nat) (e : zE) (H : Heap) : Prop :=
  (e.1 < 100 → (∃ r : vw_C, vwCl[e.1]? = some r ∧ r.2.2 = e.2.1) ∧ t_OB a (D.1 e.1) e.2.1 (D.2.1 e.1) H e.2.2) ∧ (100 ≤ e.1 → e.1 < 106 ∧ H[a]? = some (arrV (D.2.2 e.1) e.2.1 e.2.2))
def zR (D : zD) (B z : Nat) (G : zG) (H : Heap) : Prop := H.size = z ∧ ∀ a e, G a = some e → B ≤ a ∧ zAt D a e H
def zU (G : zG) (a : Nat) (e : zE) : zG := fun x => if x = a then some e else G x
abbrev zA (B : Nat) : Nat → Prop := fun q => B ≤ q
theorem zAt.kept {D : zD} {a : Nat} {e : zE} {H H1 : Heap} (h : zAt D a e H) (hq : H1[a]? = H[a]?) : zAt D a e H1 :=
  ⟨fun h1 => ⟨(h.1 h1).1, (h.1 h1).2.kept hq⟩, fun h1 => ⟨(h.2 h1).1, hq.trans (h.2 h1).2⟩⟩
theorem zAt.lt {D : zD} {a : Nat} {e : zE} {H : Heap} (h : zAt D a e H) : a < H.size := by
  by_cases q : e.1 < 100
  · obtain ⟨cell, h2, -⟩ := (h.1 q).2
    exact (Array.getElem?_eq_some_iff.mp h2).1
  · exact (Array.getElem?_eq_some_iff.mp (h.2 (by omega)).2).1
theorem zR.put {D : zD} {B z : Nat} {G : zG} {H H1 : Heap} {a : Nat} {e : zE} (h : zR D B z G H) (hz : H1.size = H.size) (oq : ∀ q : Nat, q ≠ a → H1[q]? = H[q]?) (hB : B ≤ a) (he : zAt D a e H1) : zR D B z (zU G a e) H1 := by
  refine ⟨hz.trans h.1, fun x ex hx => ?_⟩
  by_cases q : x = a
  · subst q
    simp only [zU, if_pos rfl] at hx
    cases hx
    exact ⟨hB, he⟩
  · simp only [zU, if_neg q] at hx
    exact ⟨(h.2 x ex hx).1, (h.2 x ex hx).2.kept (oq x q)⟩
theorem zR.push {D : zD} {B z : Nat} {G : zG} {H H1 : Heap} {e : zE} (h : zR D B z G H) (hz : H1.size = H.size + 1) (oq : ∀ q : Nat, q < H.size → H1[q]? = H[q]?) (hB : B ≤ z) (he : zAt D z e H1) : zR D B (z + 1) (zU G z e) H1 := by
  refine ⟨hz.trans (by rw [h.1]), fun x ex hx => ?_⟩
  by_cases q : x = z
  · subst q
    simp only [zU, if_pos rfl] at hx
    cases hx
    exact ⟨hB, he⟩
  · simp only [zU, if_neg q] at hx
    exact ⟨(h.2 x ex hx).1, (h.2 x ex hx).2.kept (oq x (h.2 x ex hx).2.lt)⟩
/-- the three rows that the class holds for good -/
def zSn : Nat → String := fun j => match j with
  | 0 => "AT_FIRST"
  | 1 => "LEAST"
  | _ => "MOST"
def zSv : Nat → Nat → Int32 := fun j => match j with
  | 0 => fun k => ([4, 100, 0, 400, 0, 0] : List Int32).getD k 0
  | 1 => fun k => ([1, 40, 0, 0, 0, 0] : List Int32).getD k 0
  | _ => fun k => ([8, 200, 99, 4000, 4000, 99] : List Int32).getD k 0
def ztys (D : zD) : List (ClassId × FieldType) := [(D.2.2 100, .int), (D.2.2 101, .boolean), (D.2.2 102, .char), (D.2.2 100, .int), (D.2.2 104, .object "TrimmedLog$Reader"), (D.2.2 105, .object "TrimmedLog$State")]
/-- pairs of exceptions, the first of which is not caught as the second -/
def zNc : List (String × String) := [("java/lang/IllegalStateException", "java/lang/IllegalArgumentException"), ("java/lang/IllegalStateException", "java/lang/IndexOutOfBoundsException"), ("java/lang/IllegalArgumentException", "java/lang/IndexOutOfBoundsException"), ("java/lang/IllegalArgumentException", "java/lang/IllegalStateException"), ("java/lang/IndexOutOfBoundsException", "java/lang/IllegalArgumentException"), ("java/lang/IndexOutOfBoundsException", "java/lang/IllegalStateException")]
/-- the texts of the exceptions -/
def zKs : List (Nat × String) := [(47, "c is not 0 to 255"), (58, "the text is full"), (72, "the text is not a log"), (84, "what is not 0 to 11"), (102, "the log has no such row"), (105, "what is not 0 to 5"), (117, "there is no such segment"), (126, "there is no such reader"), (128, "what is not 0 to 8"), (134, "key is not 0 to 7"), (266, "an argument is out of its range"), (268, "the log does not allow it now"), (164, "no state is remembered"), (181, "row is not from the first row to the end"), (183, "key is not 0 to 7, or way is not 0 or 1"), (205, "n is not 1 to 200"), (214, "n is not 1 to 3"), (220, "script is not a number of at most 6 * n digits"), (228, "m is not 1 to 60"), (252, "there is no such save slot"), (261, "nothing has been saved in it since the last load")]
/-- links to nest mates -/
def zNm : List (String × Nat × MethodName) := [(RX5, 9, yX4_init), (RX3, 11, yX1_init), (RX3, 28, yX2_init), (RX3, 37, yX5_copy), (RX4, 54, yX5_asNumber), (RX3, 145, yX5_at), (RX3, 81, yX5_asNumber), (RX1, 46, yX5_copy), (RX2, 25, yX5_copy), (RX1, 54, yX5_at), (RX1, 69, yX5_put), (RX3, 160, yX5_isIn), (RX3, 218, yX5_put)]
/-- what the making of exceptions asks -/
def zCs : List String := ["java/lang/IllegalArgumentException", "java/lang/IllegalStateException", "java/lang/IndexOutOfBoundsException"]
def zDs : List MethodName := [⟨"java/lang/RuntimeException", "<init>", "(Ljava/lang/String;)V"⟩, ⟨"java/lang/Exception", "<init>", "(Ljava/lang/String;)V"⟩, ⟨"java/lang/Throwable", "<init>", "(Ljava/lang/String;)V"⟩]
def zAs : List String := ["TrimmedLog$Reader", "TrimmedLog$State"]
def zNf : List (String × Nat × String) := [(RX3, 34, "AT_FIRST"), (RX3, 164, "LEAST"), (RX3, 167, "MOST")]
/-- what is known of the machine's tables and statics, wherever a method is entered -/
def zW (D : zD) (B : Nat) (sa : Nat → Nat) (U : State) (H : Heap) : Prop :=
  va_K (D.1, D.2.1) vwCl (ztys D) U ∧ (∀ j, j < 3 → va_Z "TrimmedLog" (zSn j) "[I" (.ref (sa j)) (zA B) U H ∧ va_T .int (sa j) 6 (fun k => .int (zSv j k)) (zA B) U H) ∧
  vx_Zq Bundle.tN "UNASSIGNED_STACK" Bundle.steD (zA B) U H ∧ vx_Zq Bundle.tN "SUPPRESSED_SENTINEL" Bundle.listD (zA B) U H ∧ (∀ q ∈ zNc, va_Nc q.1 q.2 U) ∧ (∀ q ∈ zKs, ∃ a, vk_R "TrimmedLog" q.1 q.2 a U) ∧ (∀ q ∈ zNm, va_Nw (.methodLinkNest q.1 q.2.1 q.2.2 "TrimmedLog") U) ∧ (∀ q ∈ zNf, va_Nw (.fieldLinkNest q.1 q.2.1 "TrimmedLog" q.2.2 "[I" "TrimmedLog") U) ∧ (∀ C ∈ zCs, va_Nw (.castable C C) U) ∧ (∀ y ∈ zDs, va_Nw (.declares y) U) ∧ ∀ C ∈ zAs, va_AO C U
theorem zW.go {D : zD} {B : Nat} {sa : Nat → Nat} {u U : State} {H H1 : Heap} (h : zW D B sa u H) (hw : u.WarmedH U.vm) (hq : ∀ a : Nat, a < H.size → ¬ zA B a → H1[a]? = H[a]?) : zW D B sa U H1 :=
  have hvm := hw.alike
  ⟨va_K.moved hvm h.1, fun j hj => ⟨va_Z.moved hvm ((h.2.1 j hj).1.kept hq), va_T.moved hvm ((h.2.1 j hj).2.kept hq)⟩, vx_Zq.moved hvm (h.2.2.1.kept hq), vx_Zq.moved hvm (h.2.2.2.1.kept hq), fun q h1 => va_Nc.moved hvm (h.2.2.2.2.1 q h1), fun q h1 => (h.2.2.2.2.2.1 q h1).elim fun a ha => ⟨a, vk_R.warm hw ha⟩, fun q h1 => va_Nw.warmM hw (h.2.2.2.2.2.2.1 q h1), fun q h1 => va_Nw.warmF hw (h.2.2.2.2.2.2.2.1 q h1), fun q h1 => va_Nw.warmC hw (h.2.2.2.2.2.2.2.2.1 q h1), fun q h1 => va_Nw.warmD hw (h.2.2.2.2.2.2.2.2.2.1 q h1), fun q h1 => va_AO.moved hvm (h.2.2.2.2.2.2.2.2.2.2 q h1)⟩
theorem zW.same {D : zD} {B : Nat} {sa : Nat → Nat} {u U : State} {H : Heap} (h : zW D B sa u H) (hv : U.vm = u.vm) : zW D B sa U H :=
  have hvm : u.vm.Alike U.vm := hv ▸ Vm.Alike.refl u.vm
  ⟨va_K.moved hvm h.1, fun j hj => ⟨va_Z.moved hvm (h.2.1 j hj).1, va_T.moved hvm (h.2.1 j hj).2⟩, vx_Zq.moved hvm h.2.2.1, vx_Zq.moved hvm h.2.2.2.1, fun q h1 => va_Nc.moved hvm (h.2.2.2.2.1 q h1), fun q h1 => (h.2.2.2.2.2.1 q h1).elim fun a ha => ⟨a, vk_R.same hv ha⟩, fun q h1 => va_Nw.same rfl hv.symm (h.2.2.2.2.2.2.1 q h1), fun q h1 => va_Nw.same rfl hv.symm (h.2.2.2.2.2.2.2.1 q h1), fun q h1 => va_Nw.same rfl hv.symm (h.2.2.2.2.2.2.2.2.1 q h1), fun q h1 => va_Nw.same rfl hv.symm (h.2.2.2.2.2.2.2.2.2.1 q h1), fun q h1 => va_AO.moved hvm (h.2.2.2.2.2.2.2.2.2.2 q h1)⟩
/-- locals -/
def zp : zL → Nat → List (Nat × Value)
  | [], _ => []
  | none :: t, k => zp t (k + 1)
  | some v :: t, k => (k, v) :: zp t (k + 1)
theorem zp_mem {L : zL} : ∀ {k j : Nat} {w : Value}, (j, w) ∈ zp L k ↔ k ≤ j ∧ L[j - k]? = some (some w) := by
  induction L with
  | nil => intro k j w; simp [zp]
  | cons o t ih =>
    intro k j w
    cases o with
    | none =>
      simp only [zp, ih]
      constructor
      · rintro ⟨h1, h2⟩
        refine ⟨by omega, ?_⟩
        rw [show j - k = (j - (k + 1)) + 1 by omega]
        simpa using h2
      · rintro ⟨h1, h2⟩
        rcases Nat.lt_or_ge k j with q | q
        · rw [show j - k = (j - (k + 1)) + 1 by omega] at h2
          exact ⟨by omega, by simpa using h2⟩
        · rw [show j - k = 0 by omega] at h2
          simp at h2
    | some v =>
      simp only [zp, List.mem_cons, ih, Prod.mk.injEq]
      constructor
      · rintro (⟨rfl, rfl⟩ | ⟨h1, h2⟩)
        · exact ⟨Nat.le_refl _, by simp⟩
        · refine ⟨by omega, ?_⟩
          rw [show j - k = (j - (k + 1)) + 1 by omega]
          simpa using h2
      · rintro ⟨h1, h2⟩
        rcases Nat.lt_or_ge k j with q | q
        · rw [show j - k = (j - (k + 1)) + 1 by omega] at h2
          exact Or.inr ⟨by omega, by simpa using h2⟩
        · rw [show j - k = 0 by omega] at h2
          have e : j = k := by omega
          simp at h2
          exact Or.inl ⟨e, h2.symm⟩
def zlv (ls : Array Slot) (nL : Nat) (L : zL) : Prop := lv_has ls nL (zp L 0)
theorem zlv.at {ls : Array Slot} {nL : Nat} {L : zL} (h : zlv ls nL L) {i : Nat} {v : Value} (hi : L[i]? = some (some v)) : ls[i]? = some (.val v) :=
  h.2.2 (i, v) (zp_mem.mpr ⟨Nat.zero_le _, hi⟩)
/-- the locals as a list: fewer are known -/
theorem zlv.sub {ls : Array Slot} {nL : Nat} {L L' : zL} (h : zlv ls nL L) (hs : ∀ (i : Nat) (v : Value), L'[i]? = some (some v) → L[i]? = some (some v)) : zlv ls nL L' :=
  ⟨h.1, h.2.1, fun q hq => h.at (hs q.1 q.2 (by have := (zp_mem (j := q.1) (w := q.2)).mp hq; simpa using this.2))⟩
def zkill : Option (Option Value) → Bool
  | some (some (.long _)) => true
  | some (some (.double _)) => true
  | _ => false
def zset (L : zL) (i : Nat) (v : Value) : zL := match i with
  | 0 => L.set 0 (some v)
  | j + 1 => (if zkill L[j]? = true then L.set j none else L).set (j + 1) (some v)
theorem zset_get {L : zL} {i : Nat} {v : Value} {j : Nat} {w : Value} (h : (zset L i v)[j]? = some (some w)) : (j = i ∧ w = v) ∨ (j ≠ i ∧ L[j]? = some (some w) ∧ (j + 1 = i → w.category ≠ 2)) := by
  cases i with
  | zero =>
    simp only [zset, List.getElem?_set] at h
    by_cases q : 0 = j
    · rw [if_pos q] at h
      split at h
      · simp at h; exact Or.inl ⟨q.symm, h.symm⟩
      · simp at h
    · rw [if_neg q] at h
      exact Or.inr ⟨fun z => q z.symm, h, fun z => by omega⟩
  | succ i =>
    simp only [zset] at h
    rw [List.getElem?_set] at h
    by_cases q : i + 1 = j
    · rw [if_pos q] at h
      refine Or.inl ⟨q.symm, ?_⟩
      split at h <;> simp at h
      · exact h.2.symm
      · exact h.2.symm
    · rw [if_neg q] at h
      refine Or.inr ⟨fun z => q z.symm, ?_, ?_⟩
      · split at h
        · rw [List.getElem?_set] at h
          split at h
          · split at h <;> simp at h
          · exact h
        · exact h
      · intro e
        have e2 : j = i := by omega
        subst e2
        split at h
        · rw [List.getElem?_set] at h
          simp at h
        · rename_i hk
          intro hc
          apply hk
          rw [h]
          cases w <;> simp_all [Value.category, zkill]
theorem zlv.store1 {ls : Array Slot} {nL : Nat} {L : zL} {i : Nat} {v : Value} (h : lv_has ls nL ((i, v) :: (zp L 0).filter (fun q => !(q.1 == i) && !(q.1 + 1 == i && q.2.category == 2)))) : zlv ls nL (zset L i v) := by
  refine ⟨h.1, h.2.1, fun q hq => h.2.2 q ?_⟩
  obtain ⟨j, w⟩ := q
  have h1 := zset_get (by simpa using (zp_mem.mp hq).2)
  rcases h1 with ⟨rfl, rfl⟩ | ⟨h1, h2, h3⟩
  · exact List.mem_cons_self
  · refine List.mem_cons_of_mem _ (List.mem_filter.mpr ⟨zp_mem.mpr ⟨Nat.zero_le _, h2⟩, ?_⟩)
    by_cases e : j + 1 = i
    · have := h3 e
      simp [h1, this]
    · simp [h1, e]
theorem zlv.store2 {ls : Array Slot} {nL : Nat} {L : zL} {i : Nat} {v : Value} (h : lv_has ls nL ((i, v) :: (zp L 0).filter (fun q => !(q.1 == i) && (!(q.1 == i + 1) && !(q.1 + 1 == i && q.2.category == 2))))) : zlv ls nL ((zset L i v).set (i + 1) none) := by
  refine ⟨h.1, h.2.1, fun q hq => h.2.2 q ?_⟩
  obtain ⟨j, w⟩ := q
  have h0 := (zp_mem.mp hq).2
  simp only [Nat.sub_zero, List.getElem?_set] at h0
  by_cases e2 : i + 1 = j
  · rw [if_pos e2] at h0
    split at h0 <;> simp at h0
  · rw [if_neg e2] at h0
    have h1 := zset_get h0
    rcases h1 with ⟨rfl, rfl⟩ | ⟨h1, h2, h3⟩
    · exact List.mem_cons_self
    · refine List.mem_cons_of_mem _ (List.mem_filter.mpr ⟨zp_mem.mpr ⟨Nat.zero_le _, h2⟩, ?_⟩)
      have e3 : ¬ j = i + 1 := fun z => e2 z.symm
      by_cases e : j + 1 = i
      · have := h3 e
        simp [h1, this, e3]
      · simp [h1, e, e3]
/-- the walk: from every heap that the picture G is of, every array of locals that holds what L knows -/
def zT (p : Program) (l : Launch) (e : Env) (R : Room) (s : State) (m : MethodId) (args : Array Value) (below : List Frame) (meth : Method) (c : Code) (Q : State → Prop) (D : zD) (B nL k n pc : Nat) (st : List Value) (L : zL) (z : Nat) (G : zG) : Prop :=
  ∀ (H : Heap) (locs : List Loc) (ls : Array Slot), zR D B z G H → va_S (zA B) s.heap H locs → zlv ls nL L → W p l e R s m args below meth c H locs k n Q (F0 m pc ls st)
/-- the same, with an exception of the class X over the frame -/
def zTx (p : Program) (l : Launch) (e : Env) (R : Room) (s : State) (m : MethodId) (args : Array Value) (below : List Frame) (meth : Method) (c : Code) (Q : State → Prop) (D : zD) (B nL k n pc : Nat) (X : String) (st : List Value) (L : zL) (z : Nat) (G : zG) : Prop :=
  ∀ (H : Heap) (locs : List Loc) (ls : Array Slot) (ce : Cell) (q : Addr), zR D B z G H → va_S (zA B) s.heap H locs → zlv ls nL L → H[q]? = some ce → ce.vm = .none → s.vm.findClass X = some ce.cls → vx_W p l e R s m args below meth c H locs k n Q (F0 m pc ls st) q
/-- the words that every method may take with it -/
def zgt : List Cond := lw_tbl.filter goodWord
theorem zgt_in {w : Cond} (h : w ∈ lw_tbl) (hg : goodWord w = true) : w ∈ zgt := List.mem_filter.mpr ⟨h, hg⟩
/-- what a method knows all its way -/
def zO (p : Program) (l : Launch) (s : State) (m : MethodId) (args : Array Value) (c : Code) (D : zD) (B : Nat) (sa : Nat → Nat) (nL : Nat) (cc : ByteArray) (own : String) : Prop :=
  p.tables.exec = Jvm.exec ∧ c.code = cc ∧ c.maxLocals = nL ∧ s.vm.findClass own = some m.cls ∧ (∀ w ∈ zgt, w.before args s = true) ∧ zW D B sa s s.heap ∧ B ≤ s.heap.size ∧ l.stackTraces = false


section ZZ
variable {p : Program} {l : Launch} {e : Env} {R : Room} {s : State} {m : MethodId} {args : Array Value} {below : List Frame} {meth : Method} {c : Code} {Q : State → Prop} {D : zD} {B nL : Nat} {sa : Nat → Nat} {cc : ByteArray} {own : String} {k n pc z : Nat} {st : List Value} {L : zL} {G : zG}
theorem z_iconst {i : Int} {v : Int32} (O : zO p l s m args c D B sa nL cc own) (hd : decode cc pc = .ok (.iconst i, 1)) (hv : Int32.ofInt i = v) (kk : zT p l e R s m args below meth c Q D B nL k n (pc + 1) (.int v :: st) L z G) : zT p l e R s m args below meth c Q D B nL k n (pc) (st) L z G := fun H locs ls hR hS hl => lv_iconst O.1 O.2.1 hd hv (kk H locs ls hR hS hl)
theorem z_bipush {i : Int} {v : Int32} (O : zO p l s m args c D B sa nL cc own) (hd : decode cc pc = .ok (.bipush i, 2)) (hv : (Int8.ofInt i).toInt32 = v) (kk : zT p l e R s m args below meth c Q D B nL k n (pc + 2) (.int v :: st) L z G) : zT p l e R s m args below meth c Q D B nL k n (pc) (st) L z G := fun H locs ls hR hS hl => lv_bipush O.1 O.2.1 hd hv (kk H locs ls hR hS hl)
theorem z_sipush {i : Int} {v : Int32} (O : zO p l s m args c D B sa nL cc own) (hd : decode cc pc = .ok (.sipush i, 3)) (hv : (Int16.ofInt i).toInt32 = v) (kk : zT p l e R s m args below meth c Q D B nL k n (pc + 3) (.int v :: st) L z G) : zT p l e R s m args below meth c Q D B nL k n (pc) (st) L z G := fun H locs ls hR hS hl => lv_sipush O.1 O.2.1 hd hv (kk H locs ls hR hS hl)
theorem z_lconst {i : Fin 2} {v : Int64} (O : zO p l s m args c D B sa nL cc own) (hd : decode cc pc = .ok (.lconst i, 1)) (hv : Int64.ofNat (i : Nat) = v) (kk : zT p l e R s m args below meth c Q D B nL k n (pc + 1) (.long v :: st) L z G) : zT p l e R s m args below meth c Q D B nL k n (pc) (st) L z G := fun H locs ls hR hS hl => lv_lconst O.1 O.2.1 hd hv (kk H locs ls hR hS hl)
theorem z_iload_n {j : Fin 4} {i : Nat} {x : Int32} (O : zO p l s m args c D B sa nL cc own) (hd : decode cc pc = .ok (.iload_n j, 1)) (hi : (j : Nat) = i) (hx : L[i]? = some (some (.int x))) (kk : zT p l e R s m args below meth c Q D B nL k n (pc + 1) (.int x :: st) L z G) : zT p l e R s m args below meth c Q D B nL k n (pc) (st) L z G := fun H locs ls hR hS hl => lv_iload_n O.1 O.2.1 hd hi (hl.at hx) (kk H locs ls hR hS hl)
theorem z_iload {i : Nat} {x : Int32} (O : zO p l s m args c D B sa nL cc own) (hd : decode cc pc = .ok (.iload i, 2)) (hx : L[i]? = some (some (.int x))) (kk : zT p l e R s m args below meth c Q D B nL k n (pc + 2) (.int x :: st) L z G) : zT p l e R s m args below meth c Q D B nL k n (pc) (st) L z G := fun H locs ls hR hS hl => lv_iload O.1 O.2.1 hd (hl.at hx) (kk H locs ls hR hS hl)
theorem z_lload_n {j : Fin 4} {i : Nat} {x : Int64} (O : zO p l s m args c D B sa nL cc own) (hd : decode cc pc = .ok (.lload_n j, 1)) (hi : (j : Nat) = i) (hx : L[i]? = some (some (.long x))) (kk : zT p l e R s m args below meth c Q D B nL k n (pc + 1) (.long x :: st) L z G) : zT p l e R s m args below meth c Q D B nL k n (pc) (st) L z G := fun H locs ls hR hS hl => lv_lload_n O.1 O.2.1 hd hi (hl.at hx) (kk H locs ls hR hS hl)
theorem z_lload {i : Nat} {x : Int64} (O : zO p l s m args c D B sa nL cc own) (hd : decode cc pc = .ok (.lload i, 2)) (hx : L[i]? = some (some (.long x))) (kk : zT p l e R s m args below meth c Q D B nL k n (pc + 2) (.long x :: st) L z G) : zT p l e R s m args below meth c Q D B nL k n (pc) (st) L z G := fun H locs ls hR hS hl => lv_lload O.1 O.2.1 hd (hl.at hx) (kk H locs ls hR hS hl)
theorem z_aload_n {j : Fin 4} {i : Nat} {x : Nat} (O : zO p l s m args c D B sa nL cc own) (hd : decode cc pc = .ok (.aload_n j, 1)) (hi : (j : Nat) = i) (hx : L[i]? = some (some (.ref x))) (kk : zT p l e R s m args below meth c Q D B nL k n (pc + 1) (.ref x :: st) L z G) : zT p l e R s m args below meth c Q D B nL k n (pc) (st) L z G := fun H locs ls hR hS hl => lv_aload_n O.1 O.2.1 hd hi (hl.at hx) (kk H locs ls hR hS hl)
theorem z_aload {i : Nat} {x : Nat} (O : zO p l s m args c D B sa nL cc own) (hd : decode cc pc = .ok (.aload i, 2)) (hx : L[i]? = some (some (.ref x))) (kk : zT p l e R s m args below meth c Q D B nL k n (pc + 2) (.ref x :: st) L z G) : zT p l e R s m args below meth c Q D B nL k n (pc) (st) L z G := fun H locs ls hR hS hl => lv_aload O.1 O.2.1 hd (hl.at hx) (kk H locs ls hR hS hl)
theorem z_istore_n {j : Fin 4} {i : Nat} {x : Int32} {L' : zL} (O : zO p l s m args c D B sa nL cc own) (hd : decode cc pc = .ok (.istore_n j, 1)) (hi : (j : Nat) = i) (hn : i < nL) (hL : zset L i (.int x) = L') (kk : zT p l e R s m args below meth c Q D B nL k n (pc + 1) (st) L' z G) : zT p l e R s m args below meth c Q D B nL k n (pc) (.int x :: st) L z G := fun H locs ls hR hS hl => lv_istore_n O.1 O.2.1 hd hi hl hn rfl (fun ls' h' => kk H locs ls' hR hS (hL ▸ zlv.store1 h'))
theorem z_istore {i : Nat} {x : Int32} {L' : zL} (O : zO p l s m args c D B sa nL cc own) (hd : decode cc pc = .ok (.istore i, 2)) (hn : i < nL) (hL : zset L i (.int x) = L') (kk : zT p l e R s m args below meth c Q D B nL k n (pc + 2) (st) L' z G) : zT p l e R s m args below meth c Q D B nL k n (pc) (.int x :: st) L z G := fun H locs ls hR hS hl => lv_istore O.1 O.2.1 hd hl hn rfl (fun ls' h' => kk H locs ls' hR hS (hL ▸ zlv.store1 h'))
theorem z_lstore_n {j : Fin 4} {i : Nat} {x : Int64} {L' : zL} (O : zO p l s m args c D B sa nL cc own) (hd : decode cc pc = .ok (.lstore_n j, 1)) (hi : (j : Nat) = i) (hn : i + 1 < nL) (hL : (zset L i (.long x)).set (i + 1) none = L') (kk : zT p l e R s m args below meth c Q D B nL k n (pc + 1) (st) L' z G) : zT p l e R s m args below meth c Q D B nL k n (pc) (.long x :: st) L z G := fun H locs ls hR hS hl => lv_lstore_n O.1 O.2.1 hd hi hl hn rfl (fun ls' h' => kk H locs ls' hR hS (hL ▸ zlv.store2 h'))
theorem z_lstore {i : Nat} {x : Int64} {L' : zL} (O : zO p l s m args c D B sa nL cc own) (hd : decode cc pc = .ok (.lstore i, 2)) (hn : i + 1 < nL) (hL : (zset L i (.long x)).set (i + 1) none = L') (kk : zT p l e R s m args below meth c Q D B nL k n (pc + 2) (st) L' z G) : zT p l e R s m args below meth c Q D B nL k n (pc) (.long x :: st) L z G := fun H locs ls hR hS hl => lv_lstore O.1 O.2.1 hd hl hn rfl (fun ls' h' => kk H locs ls' hR hS (hL ▸ zlv.store2 h'))
theorem z_astore_n {j : Fin 4} {i : Nat} {x : Nat} {L' : zL} (O : zO p l s m args c D B sa nL cc own) (hd : decode cc pc = .ok (.astore_n j, 1)) (hi : (j : Nat) = i) (hn : i < nL) (hL : zset L i (.ref x) = L') (kk : zT p l e R s m args below meth c Q D B nL k n (pc + 1) (st) L' z G) : zT p l e R s m args below meth c Q D B nL k n (pc) (.ref x :: st) L z G := fun H locs ls hR hS hl => lv_astore_n O.1 O.2.1 hd hi hl hn rfl (fun ls' h' => kk H locs ls' hR hS (hL ▸ zlv.store1 h'))
theorem z_astore {i : Nat} {x : Nat} {L' : zL} (O : zO p l s m args c D B sa nL cc own) (hd : decode cc pc = .ok (.astore i, 2)) (hn : i < nL) (hL : zset L i (.ref x) = L') (kk : zT p l e R s m args below meth c Q D B nL k n (pc + 2) (st) L' z G) : zT p l e R s m args below meth c Q D B nL k n (pc) (.ref x :: st) L z G := fun H locs ls hR hS hl => lv_astore O.1 O.2.1 hd hl hn rfl (fun ls' h' => kk H locs ls' hR hS (hL ▸ zlv.store1 h'))
theorem z_iinc {i : Nat} {b : Int} {x v : Int32} {L' : zL} (O : zO p l s m args c D B sa nL cc own) (hd : decode cc pc = .ok (.iinc i b, 3)) (hx : L[i]? = some (some (.int x))) (hv : x + Int32.ofInt b = v) (hn : i < nL) (hL : zset L i (.int v) = L') (kk : zT p l e R s m args below meth c Q D B nL k n (pc + 3) (st) L' z G) : zT p l e R s m args below meth c Q D B nL k n (pc) (st) L z G := by
  intro H locs ls hR hS hl
  obtain ⟨q, hq⟩ := List.getElem?_of_mem (zp_mem.mpr ⟨Nat.zero_le i, hx⟩)
  exact lv_iinc O.1 O.2.1 hd hl hq hv hn rfl (fun ls' h' => kk H locs ls' hR hS (hL ▸ zlv.store1 h'))
theorem z_iadd {x y : Int32} (O : zO p l s m args c D B sa nL cc own) (hd : decode cc pc = .ok (.iadd, 1))  (kk : zT p l e R s m args below meth c Q D B nL k n (pc + 1) (.int (x + y) :: st) L z G) : zT p l e R s m args below meth c Q D B nL k n (pc) (.int y :: .int x :: st) L z G := fun H locs ls hR hS hl => lv_iadd O.1 O.2.1 hd  (kk H locs ls hR hS hl)
theorem z_isub {x y : Int32} (O : zO p l s m args c D B sa nL cc own) (hd : decode cc pc = .ok (.isub, 1))  (kk : zT p l e R s m args below meth c Q D B nL k n (pc + 1) (.int (x - y) :: st) L z G) : zT p l e R s m args below meth c Q D B nL k n (pc) (.int y :: .int x :: st) L z G := fun H locs ls hR hS hl => lv_isub O.1 O.2.1 hd  (kk H locs ls hR hS hl)
theorem z_imul {x y : Int32} (O : zO p l s m args c D B sa nL cc own) (hd : decode cc pc = .ok (.imul, 1))  (kk : zT p l e R s m args below meth c Q D B nL k n (pc + 1) (.int (x * y) :: st) L z G) : zT p l e R s m args below meth c Q D B nL k n (pc) (.int y :: .int x :: st) L z G := fun H locs ls hR hS hl => lv_imul O.1 O.2.1 hd  (kk H locs ls hR hS hl)
theorem z_iand {x y : Int32} (O : zO p l s m args c D B sa nL cc own) (hd : decode cc pc = .ok (.iand, 1))  (kk : zT p l e R s m args below meth c Q D B nL k n (pc + 1) (.int (x &&& y) :: st) L z G) : zT p l e R s m args below meth c Q D B nL k n (pc) (.int y :: .int x :: st) L z G := fun H locs ls hR hS hl => lv_iand O.1 O.2.1 hd  (kk H locs ls hR hS hl)
theorem z_ladd {x y : Int64} (O : zO p l s m args c D B sa nL cc own) (hd : decode cc pc = .ok (.ladd, 1))  (kk : zT p l e R s m args below meth c Q D B nL k n (pc + 1) (.long (x + y) :: st) L z G) : zT p l e R s m args below meth c Q D B nL k n (pc) (.long y :: .long x :: st) L z G := fun H locs ls hR hS hl => lv_ladd O.1 O.2.1 hd  (kk H locs ls hR hS hl)
theorem z_lsub {x y : Int64} (O : zO p l s m args c D B sa nL cc own) (hd : decode cc pc = .ok (.lsub, 1))  (kk : zT p l e R s m args below meth c Q D B nL k n (pc + 1) (.long (x - y) :: st) L z G) : zT p l e R s m args below meth c Q D B nL k n (pc) (.long y :: .long x :: st) L z G := fun H locs ls hR hS hl => lv_lsub O.1 O.2.1 hd  (kk H locs ls hR hS hl)
theorem z_lmul {x y : Int64} (O : zO p l s m args c D B sa nL cc own) (hd : decode cc pc = .ok (.lmul, 1))  (kk : zT p l e R s m args below meth c Q D B nL k n (pc + 1) (.long (x * y) :: st) L z G) : zT p l e R s m args below meth c Q D B nL k n (pc) (.long y :: .long x :: st) L z G := fun H locs ls hR hS hl => lv_lmul O.1 O.2.1 hd  (kk H locs ls hR hS hl)
theorem z_land {x y : Int64} (O : zO p l s m args c D B sa nL cc own) (hd : decode cc pc = .ok (.land, 1))  (kk : zT p l e R s m args below meth c Q D B nL k n (pc + 1) (.long (x &&& y) :: st) L z G) : zT p l e R s m args below meth c Q D B nL k n (pc) (.long y :: .long x :: st) L z G := fun H locs ls hR hS hl => lv_land O.1 O.2.1 hd  (kk H locs ls hR hS hl)
theorem z_lor {x y : Int64} (O : zO p l s m args c D B sa nL cc own) (hd : decode cc pc = .ok (.lor, 1))  (kk : zT p l e R s m args below meth c Q D B nL k n (pc + 1) (.long (x ||| y) :: st) L z G) : zT p l e R s m args below meth c Q D B nL k n (pc) (.long y :: .long x :: st) L z G := fun H locs ls hR hS hl => lv_lor O.1 O.2.1 hd  (kk H locs ls hR hS hl)
theorem z_idiv {x y : Int32} (O : zO p l s m args c D B sa nL cc own) (hd : decode cc pc = .ok (.idiv, 1)) (hne : ¬ y = 0) (kk : zT p l e R s m args below meth c Q D B nL k n (pc + 1) (.int (x / y) :: st) L z G) : zT p l e R s m args below meth c Q D B nL k n (pc) (.int y :: .int x :: st) L z G := fun H locs ls hR hS hl => lv_idiv O.1 O.2.1 hd hne (kk H locs ls hR hS hl)
theorem z_irem {x y : Int32} (O : zO p l s m args c D B sa nL cc own) (hd : decode cc pc = .ok (.irem, 1)) (hne : ¬ y = 0) (kk : zT p l e R s m args below meth c Q D B nL k n (pc + 1) (.int (x - x / y * y) :: st) L z G) : zT p l e R s m args below meth c Q D B nL k n (pc) (.int y :: .int x :: st) L z G := fun H locs ls hR hS hl => lv_irem O.1 O.2.1 hd hne (kk H locs ls hR hS hl)
theorem z_ldiv {x y : Int64} (O : zO p l s m args c D B sa nL cc own) (hd : decode cc pc = .ok (.ldiv, 1)) (hne : ¬ y = 0) (kk : zT p l e R s m args below meth c Q D B nL k n (pc + 1) (.long (x / y) :: st) L z G) : zT p l e R s m args below meth c Q D B nL k n (pc) (.long y :: .long x :: st) L z G := fun H locs ls hR hS hl => lv_ldiv O.1 O.2.1 hd hne (kk H locs ls hR hS hl)
theorem z_lrem {x y : Int64} (O : zO p l s m args c D B sa nL cc own) (hd : decode cc pc = .ok (.lrem, 1)) (hne : ¬ y = 0) (kk : zT p l e R s m args below meth c Q D B nL k n (pc + 1) (.long (x - x / y * y) :: st) L z G) : zT p l e R s m args below meth c Q D B nL k n (pc) (.long y :: .long x :: st) L z G := fun H locs ls hR hS hl => lv_lrem O.1 O.2.1 hd hne (kk H locs ls hR hS hl)
theorem z_ineg {x : Int32} (O : zO p l s m args c D B sa nL cc own) (hd : decode cc pc = .ok (.ineg, 1))  (kk : zT p l e R s m args below meth c Q D B nL k n (pc + 1) (.int (-x) :: st) L z G) : zT p l e R s m args below meth c Q D B nL k n (pc) (.int x :: st) L z G := fun H locs ls hR hS hl => lv_ineg O.1 O.2.1 hd  (kk H locs ls hR hS hl)
theorem z_lshl {x : Int64} {y : Int32} (O : zO p l s m args c D B sa nL cc own) (hd : decode cc pc = .ok (.lshl, 1))  (kk : zT p l e R s m args below meth c Q D B nL k n (pc + 1) (.long (x <<< (y.toInt64 &&& 63)) :: st) L z G) : zT p l e R s m args below meth c Q D B nL k n (pc) (.int y :: .long x :: st) L z G := fun H locs ls hR hS hl => lv_lshl O.1 O.2.1 hd rfl (kk H locs ls hR hS hl)
theorem z_lushr {x : Int64} {y : Int32} (O : zO p l s m args c D B sa nL cc own) (hd : decode cc pc = .ok (.lushr, 1))  (kk : zT p l e R s m args below meth c Q D B nL k n (pc + 1) (.long ((x.toUInt64 >>> (y.toInt64.toUInt64 &&& Int64.toUInt64 63)).toInt64) :: st) L z G) : zT p l e R s m args below meth c Q D B nL k n (pc) (.int y :: .long x :: st) L z G := fun H locs ls hR hS hl => lv_lushr O.1 O.2.1 hd rfl (kk H locs ls hR hS hl)
theorem z_i2l {x : Int32} (O : zO p l s m args c D B sa nL cc own) (hd : decode cc pc = .ok (.i2l, 1))  (kk : zT p l e R s m args below meth c Q D B nL k n (pc + 1) (.long x.toInt64 :: st) L z G) : zT p l e R s m args below meth c Q D B nL k n (pc) (.int x :: st) L z G := fun H locs ls hR hS hl => lv_i2l O.1 O.2.1 hd rfl (kk H locs ls hR hS hl)
theorem z_l2i {x : Int64} (O : zO p l s m args c D B sa nL cc own) (hd : decode cc pc = .ok (.l2i, 1))  (kk : zT p l e R s m args below meth c Q D B nL k n (pc + 1) (.int x.toInt32 :: st) L z G) : zT p l e R s m args below meth c Q D B nL k n (pc) (.long x :: st) L z G := fun H locs ls hR hS hl => lv_l2i O.1 O.2.1 hd rfl (kk H locs ls hR hS hl)
theorem z_i2c {x : Int32} (O : zO p l s m args c D B sa nL cc own) (hd : decode cc pc = .ok (.i2c, 1))  (kk : zT p l e R s m args below meth c Q D B nL k n (pc + 1) (.int ((x.toUInt32 % 65536).toInt32) :: st) L z G) : zT p l e R s m args below meth c Q D B nL k n (pc) (.int x :: st) L z G := fun H locs ls hR hS hl => lv_i2c O.1 O.2.1 hd rfl (kk H locs ls hR hS hl)
theorem z_lcmp {x y : Int64} (O : zO p l s m args c D B sa nL cc own) (hd : decode cc pc = .ok (.lcmp, 1))  (kk : zT p l e R s m args below meth c Q D B nL k n (pc + 1) (.int (lg_cmp x y) :: st) L z G) : zT p l e R s m args below meth c Q D B nL k n (pc) (.long y :: .long x :: st) L z G := fun H locs ls hR hS hl => W.lcmp O.1 O.2.1 hd  (kk H locs ls hR hS hl)
theorem z_dup {va : Value} (O : zO p l s m args c D B sa nL cc own) (hd : decode cc pc = .ok (.dup, 1)) (hva : va.category = 1) (kk : zT p l e R s m args below meth c Q D B nL k n (pc + 1) (va :: va :: st) L z G) : zT p l e R s m args below meth c Q D B nL k n (pc) (va :: st) L z G := fun H locs ls hR hS hl => lv_dup O.1 O.2.1 hd hva (kk H locs ls hR hS hl)
theorem z_pop {va : Value} (O : zO p l s m args c D B sa nL cc own) (hd : decode cc pc = .ok (.pop, 1)) (hva : va.category = 1) (kk : zT p l e R s m args below meth c Q D B nL k n (pc + 1) (st) L z G) : zT p l e R s m args below meth c Q D B nL k n (pc) (va :: st) L z G := fun H locs ls hR hS hl => lv_pop O.1 O.2.1 hd hva (kk H locs ls hR hS hl)
theorem z_dup2 {va vb : Value} (O : zO p l s m args c D B sa nL cc own) (hd : decode cc pc = .ok (.dup2, 1)) (hva : va.category = 1) (hvb : vb.category = 1) (kk : zT p l e R s m args below meth c Q D B nL k n (pc + 1) (va :: vb :: va :: vb :: st) L z G) : zT p l e R s m args below meth c Q D B nL k n (pc) (va :: vb :: st) L z G := fun H locs ls hR hS hl => lv_dup2_11 O.1 O.2.1 hd hva hvb (kk H locs ls hR hS hl)
theorem z_dup_x1 {va vb : Value} (O : zO p l s m args c D B sa nL cc own) (hd : decode cc pc = .ok (.dup_x1, 1)) (hva : va.category = 1) (hvb : vb.category = 1) (kk : zT p l e R s m args below meth c Q D B nL k n (pc + 1) (va :: vb :: va :: st) L z G) : zT p l e R s m args below meth c Q D B nL k n (pc) (va :: vb :: st) L z G := fun H locs ls hR hS hl => lv_dup_x1 O.1 O.2.1 hd hva hvb (kk H locs ls hR hS hl)
theorem z_null  (O : zO p l s m args c D B sa nL cc own) (hd : decode cc pc = .ok (.aconst_null, 1))  (kk : zT p l e R s m args below meth c Q D B nL k n (pc + 1) (.null :: st) L z G) : zT p l e R s m args below meth c Q D B nL k n (pc) (st) L z G := fun H locs ls hR hS hl => lv_null O.1 O.2.1 hd  (kk H locs ls hR hS hl)
theorem z_if_eq {x : Int32} {off : Int} {tgt : Nat} (O : zO p l s m args c D B sa nL cc own) (hd : decode cc pc = .ok (.ifCond .eq off, 3)) (ht : (pc : Int) + off = (tgt : Int)) (kt : x = 0 → zT p l e R s m args below meth c Q D B nL k n (tgt) (st) L z G) (kf : ¬ x = 0 → zT p l e R s m args below meth c Q D B nL k n (pc + 3) (st) L z G) : zT p l e R s m args below meth c Q D B nL k n (pc) (.int x :: st) L z G := fun H locs ls hR hS hl => lv_if_eq O.1 O.2.1 hd ht (fun q => kt q H locs ls hR hS hl) (fun q => kf q H locs ls hR hS hl)
theorem z_icmp_eq {x y : Int32} {off : Int} {tgt : Nat} (O : zO p l s m args c D B sa nL cc own) (hd : decode cc pc = .ok (.if_icmp .eq off, 3)) (ht : (pc : Int) + off = (tgt : Int)) (kt : x = y → zT p l e R s m args below meth c Q D B nL k n (tgt) (st) L z G) (kf : ¬ x = y → zT p l e R s m args below meth c Q D B nL k n (pc + 3) (st) L z G) : zT p l e R s m args below meth c Q D B nL k n (pc) (.int y :: .int x :: st) L z G := fun H locs ls hR hS hl => lv_icmp_eq O.1 O.2.1 hd ht (fun q => kt q H locs ls hR hS hl) (fun q => kf q H locs ls hR hS hl)
theorem z_if_ne {x : Int32} {off : Int} {tgt : Nat} (O : zO p l s m args c D B sa nL cc own) (hd : decode cc pc = .ok (.ifCond .ne off, 3)) (ht : (pc : Int) + off = (tgt : Int)) (kt : ¬ x = 0 → zT p l e R s m args below meth c Q D B nL k n (tgt) (st) L z G) (kf : x = 0 → zT p l e R s m args below meth c Q D B nL k n (pc + 3) (st) L z G) : zT p l e R s m args below meth c Q D B nL k n (pc) (.int x :: st) L z G := fun H locs ls hR hS hl => lv_if_ne O.1 O.2.1 hd ht (fun q => kt q H locs ls hR hS hl) (fun q => kf q H locs ls hR hS hl)
theorem z_icmp_ne {x y : Int32} {off : Int} {tgt : Nat} (O : zO p l s m args c D B sa nL cc own) (hd : decode cc pc = .ok (.if_icmp .ne off, 3)) (ht : (pc : Int) + off = (tgt : Int)) (kt : ¬ x = y → zT p l e R s m args below meth c Q D B nL k n (tgt) (st) L z G) (kf : x = y → zT p l e R s m args below meth c Q D B nL k n (pc + 3) (st) L z G) : zT p l e R s m args below meth c Q D B nL k n (pc) (.int y :: .int x :: st) L z G := fun H locs ls hR hS hl => lv_icmp_ne O.1 O.2.1 hd ht (fun q => kt q H locs ls hR hS hl) (fun q => kf q H locs ls hR hS hl)
theorem z_if_lt {x : Int32} {off : Int} {tgt : Nat} (O : zO p l s m args c D B sa nL cc own) (hd : decode cc pc = .ok (.ifCond .lt off, 3)) (ht : (pc : Int) + off = (tgt : Int)) (kt : x < 0 → zT p l e R s m args below meth c Q D B nL k n (tgt) (st) L z G) (kf : ¬ x < 0 → zT p l e R s m args below meth c Q D B nL k n (pc + 3) (st) L z G) : zT p l e R s m args below meth c Q D B nL k n (pc) (.int x :: st) L z G := fun H locs ls hR hS hl => lv_if_lt O.1 O.2.1 hd ht (fun q => kt q H locs ls hR hS hl) (fun q => kf q H locs ls hR hS hl)
theorem z_icmp_lt {x y : Int32} {off : Int} {tgt : Nat} (O : zO p l s m args c D B sa nL cc own) (hd : decode cc pc = .ok (.if_icmp .lt off, 3)) (ht : (pc : Int) + off = (tgt : Int)) (kt : x < y → zT p l e R s m args below meth c Q D B nL k n (tgt) (st) L z G) (kf : ¬ x < y → zT p l e R s m args below meth c Q D B nL k n (pc + 3) (st) L z G) : zT p l e R s m args below meth c Q D B nL k n (pc) (.int y :: .int x :: st) L z G := fun H locs ls hR hS hl => lv_icmp_lt O.1 O.2.1 hd ht (fun q => kt q H locs ls hR hS hl) (fun q => kf q H locs ls hR hS hl)
theorem z_if_ge {x : Int32} {off : Int} {tgt : Nat} (O : zO p l s m args c D B sa nL cc own) (hd : decode cc pc = .ok (.ifCond .ge off, 3)) (ht : (pc : Int) + off = (tgt : Int)) (kt : 0 ≤ x → zT p l e R s m args below meth c Q D B nL k n (tgt) (st) L z G) (kf : ¬ 0 ≤ x → zT p l e R s m args below meth c Q D B nL k n (pc + 3) (st) L z G) : zT p l e R s m args below meth c Q D B nL k n (pc) (.int x :: st) L z G := fun H locs ls hR hS hl => lv_if_ge O.1 O.2.1 hd ht (fun q => kt q H locs ls hR hS hl) (fun q => kf q H locs ls hR hS hl)
theorem z_icmp_ge {x y : Int32} {off : Int} {tgt : Nat} (O : zO p l s m args c D B sa nL cc own) (hd : decode cc pc = .ok (.if_icmp .ge off, 3)) (ht : (pc : Int) + off = (tgt : Int)) (kt : y ≤ x → zT p l e R s m args below meth c Q D B nL k n (tgt) (st) L z G) (kf : ¬ y ≤ x → zT p l e R s m args below meth c Q D B nL k n (pc + 3) (st) L z G) : zT p l e R s m args below meth c Q D B nL k n (pc) (.int y :: .int x :: st) L z G := fun H locs ls hR hS hl => lv_icmp_ge O.1 O.2.1 hd ht (fun q => kt q H locs ls hR hS hl) (fun q => kf q H locs ls hR hS hl)
theorem z_if_gt {x : Int32} {off : Int} {tgt : Nat} (O : zO p l s m args c D B sa nL cc own) (hd : decode cc pc = .ok (.ifCond .gt off, 3)) (ht : (pc : Int) + off = (tgt : Int)) (kt : 0 < x → zT p l e R s m args below meth c Q D B nL k n (tgt) (st) L z G) (kf : ¬ 0 < x → zT p l e R s m args below meth c Q D B nL k n (pc + 3) (st) L z G) : zT p l e R s m args below meth c Q D B nL k n (pc) (.int x :: st) L z G := fun H locs ls hR hS hl => lv_if_gt O.1 O.2.1 hd ht (fun q => kt q H locs ls hR hS hl) (fun q => kf q H locs ls hR hS hl)
theorem z_icmp_gt {x y : Int32} {off : Int} {tgt : Nat} (O : zO p l s m args c D B sa nL cc own) (hd : decode cc pc = .ok (.if_icmp .gt off, 3)) (ht : (pc : Int) + off = (tgt : Int)) (kt : y < x → zT p l e R s m args below meth c Q D B nL k n (tgt) (st) L z G) (kf : ¬ y < x → zT p l e R s m args below meth c Q D B nL k n (pc + 3) (st) L z G) : zT p l e R s m args below meth c Q D B nL k n (pc) (.int y :: .int x :: st) L z G := fun H locs ls hR hS hl => lv_icmp_gt O.1 O.2.1 hd ht (fun q => kt q H locs ls hR hS hl) (fun q => kf q H locs ls hR hS hl)
theorem z_if_le {x : Int32} {off : Int} {tgt : Nat} (O : zO p l s m args c D B sa nL cc own) (hd : decode cc pc = .ok (.ifCond .le off, 3)) (ht : (pc : Int) + off = (tgt : Int)) (kt : x ≤ 0 → zT p l e R s m args below meth c Q D B nL k n (tgt) (st) L z G) (kf : ¬ x ≤ 0 → zT p l e R s m args below meth c Q D B nL k n (pc + 3) (st) L z G) : zT p l e R s m args below meth c Q D B nL k n (pc) (.int x :: st) L z G := fun H locs ls hR hS hl => lv_if_le O.1 O.2.1 hd ht (fun q => kt q H locs ls hR hS hl) (fun q => kf q H locs ls hR hS hl)
theorem z_icmp_le {x y : Int32} {off : Int} {tgt : Nat} (O : zO p l s m args c D B sa nL cc own) (hd : decode cc pc = .ok (.if_icmp .le off, 3)) (ht : (pc : Int) + off = (tgt : Int)) (kt : x ≤ y → zT p l e R s m args below meth c Q D B nL k n (tgt) (st) L z G) (kf : ¬ x ≤ y → zT p l e R s m args below meth c Q D B nL k n (pc + 3) (st) L z G) : zT p l e R s m args below meth c Q D B nL k n (pc) (.int y :: .int x :: st) L z G := fun H locs ls hR hS hl => lv_icmp_le O.1 O.2.1 hd ht (fun q => kt q H locs ls hR hS hl) (fun q => kf q H locs ls hR hS hl)
theorem z_ldc {i : Nat} {v : Int32} (O : zO p l s m args c D B sa nL cc own) (hw : Cond.constant own i v ∈ zgt) (hd : decode cc pc = .ok (.ldc i, 2)) (kk : zT p l e R s m args below meth c Q D B nL k n (pc + 2) (.int v :: st) L z G) : zT p l e R s m args below meth c Q D B nL k n (pc) (st) L z G := fun H locs ls hR hS hl => lv_ldc O.1 O.2.1 O.2.2.2.1 (O.2.2.2.2.1 _ hw) hd (kk H locs ls hR hS hl)
theorem z_ldcw {i : Nat} {v : Int32} (O : zO p l s m args c D B sa nL cc own) (hw : Cond.constant own i v ∈ zgt) (hd : decode cc pc = .ok (.ldc_w i, 3)) (kk : zT p l e R s m args below meth c Q D B nL k n (pc + 3) (.int v :: st) L z G) : zT p l e R s m args below meth c Q D B nL k n (pc) (st) L z G := fun H locs ls hR hS hl => lv_ldcw O.1 O.2.1 O.2.2.2.1 (O.2.2.2.2.1 _ hw) hd (kk H locs ls hR hS hl)
theorem z_ldc2 {i : Nat} {v : Int64} (O : zO p l s m args c D B sa nL cc own) (hw : Cond.constantLong own i v ∈ zgt) (hd : decode cc pc = .ok (.ldc2_w i, 3)) (kk : zT p l e R s m args below meth c Q D B nL k n (pc + 3) (.long v :: st) L z G) : zT p l e R s m args below meth c Q D B nL k n (pc) (st) L z G := fun H locs ls hR hS hl => lv_ldc2 O.1 O.2.1 O.2.2.2.1 (O.2.2.2.2.1 _ hw) hd (kk H locs ls hR hS hl)
theorem z_tsw {dflt lo hi : Int} {offs : Array Int} {len : Nat} {x v : Int32} {off : Int} {tgt : Nat} (O : zO p l s m args c D B sa nL cc own) (hd : decode cc pc = .ok (.tableswitch dflt lo hi offs, len)) (hx : x = v) (h1 : ¬ v.toInt < lo) (h2 : ¬ hi < v.toInt) (ho : offs[(v.toInt - lo).toNat]? = some off) (ht : (pc : Int) + off = (tgt : Int)) (kk : zT p l e R s m args below meth c Q D B nL k n (tgt) (st) L z G) : zT p l e R s m args below meth c Q D B nL k n (pc) (.int x :: st) L z G := fun H locs ls hR hS hl => lv_tableIn O.1 O.2.1 hd (hx ▸ h1) (hx ▸ h2) (by rw [hx]; exact ho) ht (kk H locs ls hR hS hl)
theorem z_tswd {dflt lo hi : Int} {offs : Array Int} {len : Nat} {x : Int32} {tgt : Nat} (O : zO p l s m args c D B sa nL cc own) (hd : decode cc pc = .ok (.tableswitch dflt lo hi offs, len)) (hx : x.toInt < lo ∨ hi < x.toInt) (ht : (pc : Int) + dflt = (tgt : Int)) (kk : zT p l e R s m args below meth c Q D B nL k n (tgt) (st) L z G) : zT p l e R s m args below meth c Q D B nL k n (pc) (.int x :: st) L z G := fun H locs ls hR hS hl => lv_tableOut O.1 O.2.1 hd hx ht (kk H locs ls hR hS hl)
theorem z_lsw {dflt : Int} {ps : Array (Int × Int)} {len : Nat} {x : Int32} {off : Int} {tgt : Nat} (O : zO p l s m args c D B sa nL cc own) (hd : decode cc pc = .ok (.lookupswitch dflt ps, len)) (hp : (ps.toList.zip (ps.toList.drop 1)).all (fun (a, next) => a.1 < next.1) = true) (ho : Op.lookupswitch.offset ps.toList dflt x.toInt = off) (ht : (pc : Int) + off = (tgt : Int)) (kk : zT p l e R s m args below meth c Q D B nL k n (tgt) (st) L z G) : zT p l e R s m args below meth c Q D B nL k n (pc) (.int x :: st) L z G := fun H locs ls hR hS hl => lv_lookup O.1 O.2.1 hd hp ho ht (kk H locs ls hR hS hl)
theorem z_goto {off : Int} {tgt : Nat} (O : zO p l s m args c D B sa nL cc own) (hd : decode cc pc = .ok (.goto off, 3)) (ht : (pc : Int) + off = (tgt : Int)) (kk : zT p l e R s m args below meth c Q D B nL k n (tgt) (st) L z G) : zT p l e R s m args below meth c Q D B nL k n (pc) (st) L z G := fun H locs ls hR hS hl => lv_goto O.1 O.2.1 hd ht (kk H locs ls hR hS hl)
theorem z_ifnull {x : Nat} {off : Int} (O : zO p l s m args c D B sa nL cc own) (hd : decode cc pc = .ok (.ifnull off, 3)) (kk : zT p l e R s m args below meth c Q D B nL k n (pc + 3) (st) L z G) : zT p l e R s m args below meth c Q D B nL k n (pc) (.ref x :: st) L z G := fun H locs ls hR hS hl => lv_ifnull O.1 O.2.1 hd (kk H locs ls hR hS hl)
theorem z_ifnullN {off : Int} {tgt : Nat} (O : zO p l s m args c D B sa nL cc own) (hd : decode cc pc = .ok (.ifnull off, 3)) (ht : (pc : Int) + off = (tgt : Int)) (kk : zT p l e R s m args below meth c Q D B nL k n (tgt) (st) L z G) : zT p l e R s m args below meth c Q D B nL k n (pc) (.null :: st) L z G := fun H locs ls hR hS hl => lv_ifnullN O.1 O.2.1 hd ht (kk H locs ls hR hS hl)
theorem z_ifnonnull {x : Nat} {off : Int} {tgt : Nat} (O : zO p l s m args c D B sa nL cc own) (hd : decode cc pc = .ok (.ifnonnull off, 3)) (ht : (pc : Int) + off = (tgt : Int)) (kk : zT p l e R s m args below meth c Q D B nL k n (tgt) (st) L z G) : zT p l e R s m args below meth c Q D B nL k n (pc) (.ref x :: st) L z G := fun H locs ls hR hS hl => lv_ifnonnull O.1 O.2.1 hd ht (kk H locs ls hR hS hl)
theorem z_ifnonnullN {off : Int} (O : zO p l s m args c D B sa nL cc own) (hd : decode cc pc = .ok (.ifnonnull off, 3)) (kk : zT p l e R s m args below meth c Q D B nL k n (pc + 3) (st) L z G) : zT p l e R s m args below meth c Q D B nL k n (pc) (.null :: st) L z G := fun H locs ls hR hS hl => lv_ifnonnullN O.1 O.2.1 hd (kk H locs ls hR hS hl)
end ZZ

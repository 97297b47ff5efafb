/-! What the objects hold, as values, and where their cells lie. -/
/-- one cell is written -/
def Wr (G : zG) (a : Nat) (e : zE) (G1 : zG) : Prop := G1 a = some e ∧ ∀ x, x ≠ a → G1 x = G x
/-- nothing changes but the n cells from b on -/
def Fr (b n : Nat) (G G1 : zG) : Prop := ∀ x, ¬ (b ≤ x ∧ x < b + n) → G1 x = G x
def Fr2 (b n c m : Nat) (G G1 : zG) : Prop := ∀ x, ¬ (b ≤ x ∧ x < b + n) → ¬ (c ≤ x ∧ x < c + m) → G1 x = G x
theorem Wr.of (G : zG) (a : Nat) (e : zE) : Wr G a e (zU G a e) := ⟨if_pos rfl, fun _ h => if_neg h⟩
theorem Wr.fr {G G1 : zG} {a : Nat} {e : zE} (h : Wr G a e G1) : Fr a 1 G G1 := fun x hx => h.2 x (fun q => hx (by omega))
theorem Fr.rf {b n : Nat} {G : zG} : Fr b n G G := fun _ _ => rfl
theorem Fr.mono {b n c m : Nat} {G G1 : zG} (h : Fr b n G G1) (h1 : c ≤ b) (h2 : b + n ≤ c + m) : Fr c m G G1 := fun x hx => h x (fun q => hx ⟨by omega, by omega⟩)
theorem Fr.trans {b n : Nat} {G G1 G2 : zG} (h : Fr b n G G1) (h2 : Fr b n G1 G2) : Fr b n G G2 := fun x hx => (h2 x hx).trans (h x hx)
theorem Fr2.rf {b n c m : Nat} {G : zG} : Fr2 b n c m G G := fun _ _ _ => rfl
theorem Fr2.l {b n c m : Nat} {G G1 G2 : zG} (h : Fr2 b n c m G G1) (h2 : Fr b n G1 G2) : Fr2 b n c m G G2 := fun x hx hy => (h2 x hx).trans (h x hx hy)
theorem Fr2.r {b n c m : Nat} {G G1 G2 : zG} (h : Fr2 b n c m G G1) (h2 : Fr c m G1 G2) : Fr2 b n c m G G2 := fun x hx hy => (h2 x hy).trans (h x hx hy)
/-- two parts, one behind the other -/
theorem Fr2.split {b n c m : Nat} {G G2 : zG} (h : Fr2 b n c m G G2) : ∃ G1, Fr b n G G1 ∧ Fr c m G1 G2 ∧ ∀ x, b ≤ x → x < b + n → G1 x = G2 x := by
  refine ⟨fun x => if b ≤ x ∧ x < b + n then G2 x else G x, fun x hx => if_neg hx, fun x hx => ?_, fun x h1 h2 => if_pos ⟨h1, h2⟩⟩
  by_cases q : b ≤ x ∧ x < b + n
  · exact (if_pos q).symm
  · exact (h x q hx).trans (if_neg q).symm
theorem Fr.one {a N : Nat} {G G1 : zG} {e : zE} (hG : G a = some e) {b n : Nat} (h : Fr b n G G1) (hd : a < b ∨ b + n ≤ a) : G1 a = some e := (h a (by omega)).trans hG
def zLe : zL → zL → Prop
  | [], _ => True
  | none :: t, _ :: t' => zLe t t'
  | none :: t, [] => zLe t []
  | some v :: t, o :: t' => o = some v ∧ zLe t t'
  | some _ :: _, [] => False
theorem zLe.sub : ∀ {L' L : zL}, zLe L' L → ∀ (i : Nat) (v : Value), L'[i]? = some (some v) → L[i]? = some (some v)
  | [], _, _, i, v, h => by simp at h
  | none :: t, o :: t', h0, i, v, h => by
    cases i with
    | zero => simp at h
    | succ i => simpa using zLe.sub (L' := t) (L := t') h0 i v (by simpa using h)
  | none :: t, [], h0, i, v, h => by
    cases i with
    | zero => simp at h
    | succ i => have := zLe.sub (L' := t) (L := []) h0 i v (by simpa using h); simp at this
  | some w :: t, o :: t', h0, i, v, h => by
    cases i with
    | zero => simp at h; subst h; simpa using h0.1
    | succ i => simpa using zLe.sub (L' := t) (L := t') h0.2 i v (by simpa using h)
  | some _ :: _, [], h0, _, _, _ => h0.elim
theorem z_lt {i : Int32} {n : Nat} (h : vp_in i n) : i.toNatClampNeg < n := Nat.not_le.mp fun q => h (Or.inr q)
/-- a number that is a truth value; a character -/
def zb (v : Int32) : Prop := v = 0 ∨ v = 1
def zc (v : Int32) : Prop := narrow .char (.int v) = .int v

abbrev LT : Type := (Nat → Int32) × (Nat → Int32) × (Nat → Int32) × (Nat → Int32) × (Nat → Int32) × (Nat → Int32) × Int32 × Int32 × Int32 × Int32 × Int32
abbrev L_keys (x : LT) : (Nat → Int32) := x.1
abbrev L_values (x : LT) : (Nat → Int32) := x.2.1
abbrev L_times (x : LT) : (Nat → Int32) := x.2.2.1
abbrev L_lengthsBelow (x : LT) : (Nat → Int32) := x.2.2.2.1
abbrev L_starts (x : LT) : (Nat → Int32) := x.2.2.2.2.1
abbrev L_dropValues (x : LT) : (Nat → Int32) := x.2.2.2.2.2.1
abbrev L_first (x : LT) : Int32 := x.2.2.2.2.2.2.1
abbrev L_end (x : LT) : Int32 := x.2.2.2.2.2.2.2.1
abbrev L_length (x : LT) : Int32 := x.2.2.2.2.2.2.2.2.1
abbrev L_begun (x : LT) : Int32 := x.2.2.2.2.2.2.2.2.2.1
abbrev L_dropped (x : LT) : Int32 := x.2.2.2.2.2.2.2.2.2.2
abbrev L_set_keys (x : LT) (v : (Nat → Int32)) : LT := (v, x.2.1, x.2.2.1, x.2.2.2.1, x.2.2.2.2.1, x.2.2.2.2.2.1, x.2.2.2.2.2.2.1, x.2.2.2.2.2.2.2.1, x.2.2.2.2.2.2.2.2.1, x.2.2.2.2.2.2.2.2.2.1, x.2.2.2.2.2.2.2.2.2.2)
abbrev L_set_values (x : LT) (v : (Nat → Int32)) : LT := (x.1, v, x.2.2.1, x.2.2.2.1, x.2.2.2.2.1, x.2.2.2.2.2.1, x.2.2.2.2.2.2.1, x.2.2.2.2.2.2.2.1, x.2.2.2.2.2.2.2.2.1, x.2.2.2.2.2.2.2.2.2.1, x.2.2.2.2.2.2.2.2.2.2)
abbrev L_set_times (x : LT) (v : (Nat → Int32)) : LT := (x.1, x.2.1, v, x.2.2.2.1, x.2.2.2.2.1, x.2.2.2.2.2.1, x.2.2.2.2.2.2.1, x.2.2.2.2.2.2.2.1, x.2.2.2.2.2.2.2.2.1, x.2.2.2.2.2.2.2.2.2.1, x.2.2.2.2.2.2.2.2.2.2)
abbrev L_set_lengthsBelow (x : LT) (v : (Nat → Int32)) : LT := (x.1, x.2.1, x.2.2.1, v, x.2.2.2.2.1, x.2.2.2.2.2.1, x.2.2.2.2.2.2.1, x.2.2.2.2.2.2.2.1, x.2.2.2.2.2.2.2.2.1, x.2.2.2.2.2.2.2.2.2.1, x.2.2.2.2.2.2.2.2.2.2)
abbrev L_set_starts (x : LT) (v : (Nat → Int32)) : LT := (x.1, x.2.1, x.2.2.1, x.2.2.2.1, v, x.2.2.2.2.2.1, x.2.2.2.2.2.2.1, x.2.2.2.2.2.2.2.1, x.2.2.2.2.2.2.2.2.1, x.2.2.2.2.2.2.2.2.2.1, x.2.2.2.2.2.2.2.2.2.2)
abbrev L_set_dropValues (x : LT) (v : (Nat → Int32)) : LT := (x.1, x.2.1, x.2.2.1, x.2.2.2.1, x.2.2.2.2.1, v, x.2.2.2.2.2.2.1, x.2.2.2.2.2.2.2.1, x.2.2.2.2.2.2.2.2.1, x.2.2.2.2.2.2.2.2.2.1, x.2.2.2.2.2.2.2.2.2.2)
abbrev L_set_first (x : LT) (v : Int32) : LT := (x.1, x.2.1, x.2.2.1, x.2.2.2.1, x.2.2.2.2.1, x.2.2.2.2.2.1, v, x.2.2.2.2.2.2.2.1, x.2.2.2.2.2.2.2.2.1, x.2.2.2.2.2.2.2.2.2.1, x.2.2.2.2.2.2.2.2.2.2)
abbrev L_set_end (x : LT) (v : Int32) : LT := (x.1, x.2.1, x.2.2.1, x.2.2.2.1, x.2.2.2.2.1, x.2.2.2.2.2.1, x.2.2.2.2.2.2.1, v, x.2.2.2.2.2.2.2.2.1, x.2.2.2.2.2.2.2.2.2.1, x.2.2.2.2.2.2.2.2.2.2)
abbrev L_set_length (x : LT) (v : Int32) : LT := (x.1, x.2.1, x.2.2.1, x.2.2.2.1, x.2.2.2.2.1, x.2.2.2.2.2.1, x.2.2.2.2.2.2.1, x.2.2.2.2.2.2.2.1, v, x.2.2.2.2.2.2.2.2.2.1, x.2.2.2.2.2.2.2.2.2.2)
abbrev L_set_begun (x : LT) (v : Int32) : LT := (x.1, x.2.1, x.2.2.1, x.2.2.2.1, x.2.2.2.2.1, x.2.2.2.2.2.1, x.2.2.2.2.2.2.1, x.2.2.2.2.2.2.2.1, x.2.2.2.2.2.2.2.2.1, v, x.2.2.2.2.2.2.2.2.2.2)
abbrev L_set_dropped (x : LT) (v : Int32) : LT := (x.1, x.2.1, x.2.2.1, x.2.2.2.1, x.2.2.2.2.1, x.2.2.2.2.2.1, x.2.2.2.2.2.2.1, x.2.2.2.2.2.2.2.1, x.2.2.2.2.2.2.2.2.1, x.2.2.2.2.2.2.2.2.2.1, v)
def oL (b : Nat) (x : LT) : Nat → Value := fun k => match k with
  | 0 => .ref (b + 1)
  | 1 => .ref (b + 2)
  | 2 => .ref (b + 3)
  | 3 => .ref (b + 4)
  | 4 => .ref (b + 5)
  | 5 => .ref (b + 6)
  | 6 => .int (L_first x)
  | 7 => .int (L_end x)
  | 8 => .int (L_length x)
  | 9 => .int (L_begun x)
  | 10 => .int (L_dropped x)
  | _ => .null
def cL (b : Nat) (x : LT) (i : Nat) : zE := if i < 1 then (1, 11, oL b x) else if i < 2 then zia 200 (L_keys x) else if i < 3 then zia 200 (L_values x) else if i < 4 then zia 200 (L_times x) else if i < 5 then zia 201 (L_lengthsBelow x) else if i < 6 then zia 200 (L_starts x) else zia 8 (L_dropValues x)
def LA (b : Nat) (x : LT) (G : zG) : Prop := ∀ i, i < 7 → G (b + i) = some (cL b x i)
theorem L_obj {b : Nat} {x : LT} {G : zG} (h : LA b x G) : G b = some (1, 11, oL b x) := h 0 (by decide)
theorem LA.fr {b : Nat} {x : LT} {G : zG} (h : LA b x G) {a m : Nat} {G1 : zG} (hf : Fr a m G G1) (hd : b + 7 ≤ a ∨ a + m ≤ b) : LA b x G1 := fun i hi => (hf (b + i) (by omega)).trans (h i hi)
theorem LA.eq {b : Nat} {x : LT} {G : zG} (h : LA b x G) {G1 : zG} (hf : ∀ q, b ≤ q → q < b + 7 → G1 q = G q) : LA b x G1 := fun i hi => (hf (b + i) (by omega) (by omega)).trans (h i hi)
theorem L_keys_of {b : Nat} {x : LT} {G : zG} (h : LA b x G) : G (b + 1) = some (zia 200 (L_keys x)) := h 1 (by decide)
theorem L_values_of {b : Nat} {x : LT} {G : zG} (h : LA b x G) : G (b + 2) = some (zia 200 (L_values x)) := h 2 (by decide)
theorem L_times_of {b : Nat} {x : LT} {G : zG} (h : LA b x G) : G (b + 3) = some (zia 200 (L_times x)) := h 3 (by decide)
theorem L_lengthsBelow_of {b : Nat} {x : LT} {G : zG} (h : LA b x G) : G (b + 4) = some (zia 201 (L_lengthsBelow x)) := h 4 (by decide)
theorem L_starts_of {b : Nat} {x : LT} {G : zG} (h : LA b x G) : G (b + 5) = some (zia 200 (L_starts x)) := h 5 (by decide)
theorem L_dropValues_of {b : Nat} {x : LT} {G : zG} (h : LA b x G) : G (b + 6) = some (zia 8 (L_dropValues x)) := h 6 (by decide)
theorem L_put_keys {b : Nat} {x : LT} {G : zG} (h : LA b x G) {v : Nat → Int32} {G1 : zG} (hv : G1 (b + 1) = some (zia 200 v)) (hf : Fr (b + 1) 1 G G1) : LA b (L_set_keys x v) G1 := by
  intro i hi
  by_cases q : i = 1
  · subst q
    exact hv
  · rw [hf (b + i) (by omega), h i hi]
    unfold cL
    split
    · rfl
    have hc : ¬ i < 2 := by omega
    rw [if_neg hc, if_neg hc]
theorem L_put_values {b : Nat} {x : LT} {G : zG} (h : LA b x G) {v : Nat → Int32} {G1 : zG} (hv : G1 (b + 2) = some (zia 200 v)) (hf : Fr (b + 2) 1 G G1) : LA b (L_set_values x v) G1 := by
  intro i hi
  by_cases q : i = 2
  · subst q
    exact hv
  · rw [hf (b + i) (by omega), h i hi]
    unfold cL
    split
    · rfl
    split
    · rfl
    have hc : ¬ i < 3 := by omega
    rw [if_neg hc, if_neg hc]
theorem L_put_times {b : Nat} {x : LT} {G : zG} (h : LA b x G) {v : Nat → Int32} {G1 : zG} (hv : G1 (b + 3) = some (zia 200 v)) (hf : Fr (b + 3) 1 G G1) : LA b (L_set_times x v) G1 := by
  intro i hi
  by_cases q : i = 3
  · subst q
    exact hv
  · rw [hf (b + i) (by omega), h i hi]
    unfold cL
    split
    · rfl
    split
    · rfl
    split
    · rfl
    have hc : ¬ i < 4 := by omega
    rw [if_neg hc, if_neg hc]
theorem L_put_lengthsBelow {b : Nat} {x : LT} {G : zG} (h : LA b x G) {v : Nat → Int32} {G1 : zG} (hv : G1 (b + 4) = some (zia 201 v)) (hf : Fr (b + 4) 1 G G1) : LA b (L_set_lengthsBelow x v) G1 := by
  intro i hi
  by_cases q : i = 4
  · subst q
    exact hv
  · rw [hf (b + i) (by omega), h i hi]
    unfold cL
    split
    · rfl
    split
    · rfl
    split
    · rfl
    split
    · rfl
    have hc : ¬ i < 5 := by omega
    rw [if_neg hc, if_neg hc]
theorem L_put_starts {b : Nat} {x : LT} {G : zG} (h : LA b x G) {v : Nat → Int32} {G1 : zG} (hv : G1 (b + 5) = some (zia 200 v)) (hf : Fr (b + 5) 1 G G1) : LA b (L_set_starts x v) G1 := by
  intro i hi
  by_cases q : i = 5
  · subst q
    exact hv
  · rw [hf (b + i) (by omega), h i hi]
    unfold cL
    split
    · rfl
    split
    · rfl
    split
    · rfl
    split
    · rfl
    split
    · rfl
    have hc : ¬ i < 6 := by omega
    rw [if_neg hc, if_neg hc]
theorem L_put_dropValues {b : Nat} {x : LT} {G : zG} (h : LA b x G) {v : Nat → Int32} {G1 : zG} (hv : G1 (b + 6) = some (zia 8 v)) (hf : Fr (b + 6) 1 G G1) : LA b (L_set_dropValues x v) G1 := by
  intro i hi
  by_cases q : i = 6
  · subst q
    exact hv
  · rw [hf (b + i) (by omega), h i hi]
    unfold cL
    split
    · rfl
    split
    · rfl
    split
    · rfl
    split
    · rfl
    split
    · rfl
    split
    · rfl
    exact False.elim (by omega)
theorem L_w_first_o (b : Nat) (x : LT) (v : Int32) : updV (oL b x) 6 (.int v) = oL b (L_set_first x v) := by
  funext j
  match j with
  | 0 => rfl
  | 1 => rfl
  | 2 => rfl
  | 3 => rfl
  | 4 => rfl
  | 5 => rfl
  | 6 => rfl
  | 7 => rfl
  | 8 => rfl
  | 9 => rfl
  | 10 => rfl
  | j + 11 => exact if_neg (by omega)
theorem L_w_first {b : Nat} {x : LT} {G : zG} (h : LA b x G) {v : Int32} {G1 : zG} (hw : Wr G b (1, 11, updV (oL b x) 6 (.int v)) G1) : LA b (L_set_first x v) G1 := by
  intro i hi
  by_cases q : i = 0
  · subst q
    rw [L_w_first_o] at hw
    exact hw.1
  · rw [hw.2 (b + i) (by omega), h i hi]
    unfold cL
    have hc : ¬ i < 1 := by omega
    rw [if_neg hc, if_neg hc]
theorem L_w_end_o (b : Nat) (x : LT) (v : Int32) : updV (oL b x) 7 (.int v) = oL b (L_set_end x v) := by
  funext j
  match j with
  | 0 => rfl
  | 1 => rfl
  | 2 => rfl
  | 3 => rfl
  | 4 => rfl
  | 5 => rfl
  | 6 => rfl
  | 7 => rfl
  | 8 => rfl
  | 9 => rfl
  | 10 => rfl
  | j + 11 => exact if_neg (by omega)
theorem L_w_end {b : Nat} {x : LT} {G : zG} (h : LA b x G) {v : Int32} {G1 : zG} (hw : Wr G b (1, 11, updV (oL b x) 7 (.int v)) G1) : LA b (L_set_end x v) G1 := by
  intro i hi
  by_cases q : i = 0
  · subst q
    rw [L_w_end_o] at hw
    exact hw.1
  · rw [hw.2 (b + i) (by omega), h i hi]
    unfold cL
    have hc : ¬ i < 1 := by omega
    rw [if_neg hc, if_neg hc]
theorem L_w_length_o (b : Nat) (x : LT) (v : Int32) : updV (oL b x) 8 (.int v) = oL b (L_set_length x v) := by
  funext j
  match j with
  | 0 => rfl
  | 1 => rfl
  | 2 => rfl
  | 3 => rfl
  | 4 => rfl
  | 5 => rfl
  | 6 => rfl
  | 7 => rfl
  | 8 => rfl
  | 9 => rfl
  | 10 => rfl
  | j + 11 => exact if_neg (by omega)
theorem L_w_length {b : Nat} {x : LT} {G : zG} (h : LA b x G) {v : Int32} {G1 : zG} (hw : Wr G b (1, 11, updV (oL b x) 8 (.int v)) G1) : LA b (L_set_length x v) G1 := by
  intro i hi
  by_cases q : i = 0
  · subst q
    rw [L_w_length_o] at hw
    exact hw.1
  · rw [hw.2 (b + i) (by omega), h i hi]
    unfold cL
    have hc : ¬ i < 1 := by omega
    rw [if_neg hc, if_neg hc]
theorem L_w_begun_o (b : Nat) (x : LT) (v : Int32) : updV (oL b x) 9 (.int v) = oL b (L_set_begun x v) := by
  funext j
  match j with
  | 0 => rfl
  | 1 => rfl
  | 2 => rfl
  | 3 => rfl
  | 4 => rfl
  | 5 => rfl
  | 6 => rfl
  | 7 => rfl
  | 8 => rfl
  | 9 => rfl
  | 10 => rfl
  | j + 11 => exact if_neg (by omega)
theorem L_w_begun {b : Nat} {x : LT} {G : zG} (h : LA b x G) {v : Int32} {G1 : zG} (hw : Wr G b (1, 11, updV (oL b x) 9 (.int v)) G1) : LA b (L_set_begun x v) G1 := by
  intro i hi
  by_cases q : i = 0
  · subst q
    rw [L_w_begun_o] at hw
    exact hw.1
  · rw [hw.2 (b + i) (by omega), h i hi]
    unfold cL
    have hc : ¬ i < 1 := by omega
    rw [if_neg hc, if_neg hc]
theorem L_w_dropped_o (b : Nat) (x : LT) (v : Int32) : updV (oL b x) 10 (.int v) = oL b (L_set_dropped x v) := by
  funext j
  match j with
  | 0 => rfl
  | 1 => rfl
  | 2 => rfl
  | 3 => rfl
  | 4 => rfl
  | 5 => rfl
  | 6 => rfl
  | 7 => rfl
  | 8 => rfl
  | 9 => rfl
  | 10 => rfl
  | j + 11 => exact if_neg (by omega)
theorem L_w_dropped {b : Nat} {x : LT} {G : zG} (h : LA b x G) {v : Int32} {G1 : zG} (hw : Wr G b (1, 11, updV (oL b x) 10 (.int v)) G1) : LA b (L_set_dropped x v) G1 := by
  intro i hi
  by_cases q : i = 0
  · subst q
    rw [L_w_dropped_o] at hw
    exact hw.1
  · rw [hw.2 (b + i) (by omega), h i hi]
    unfold cL
    have hc : ¬ i < 1 := by omega
    rw [if_neg hc, if_neg hc]
abbrev RT : Type := (Nat → Int32) × Int32 × Int32 × Int32 × Int32 × Int32 × Int32 × Int32 × Int32
abbrev R_values (x : RT) : (Nat → Int32) := x.1
abbrev R_present (x : RT) : Int32 := x.2.1
abbrev R_hasLeft (x : RT) : Int32 := x.2.2.1
abbrev R_held (x : RT) : Int32 := x.2.2.2.1
abbrev R_place (x : RT) : Int32 := x.2.2.2.2.1
abbrev R_readSoFar (x : RT) : Int32 := x.2.2.2.2.2.1
abbrev R_missedSoFar (x : RT) : Int32 := x.2.2.2.2.2.2.1
abbrev R_lastRead (x : RT) : Int32 := x.2.2.2.2.2.2.2.1
abbrev R_lostBy (x : RT) : Int32 := x.2.2.2.2.2.2.2.2
abbrev R_set_values (x : RT) (v : (Nat → Int32)) : RT := (v, x.2.1, x.2.2.1, x.2.2.2.1, x.2.2.2.2.1, x.2.2.2.2.2.1, x.2.2.2.2.2.2.1, x.2.2.2.2.2.2.2.1, x.2.2.2.2.2.2.2.2)
abbrev R_set_present (x : RT) (v : Int32) : RT := (x.1, v, x.2.2.1, x.2.2.2.1, x.2.2.2.2.1, x.2.2.2.2.2.1, x.2.2.2.2.2.2.1, x.2.2.2.2.2.2.2.1, x.2.2.2.2.2.2.2.2)
abbrev R_set_hasLeft (x : RT) (v : Int32) : RT := (x.1, x.2.1, v, x.2.2.2.1, x.2.2.2.2.1, x.2.2.2.2.2.1, x.2.2.2.2.2.2.1, x.2.2.2.2.2.2.2.1, x.2.2.2.2.2.2.2.2)
abbrev R_set_held (x : RT) (v : Int32) : RT := (x.1, x.2.1, x.2.2.1, v, x.2.2.2.2.1, x.2.2.2.2.2.1, x.2.2.2.2.2.2.1, x.2.2.2.2.2.2.2.1, x.2.2.2.2.2.2.2.2)
abbrev R_set_place (x : RT) (v : Int32) : RT := (x.1, x.2.1, x.2.2.1, x.2.2.2.1, v, x.2.2.2.2.2.1, x.2.2.2.2.2.2.1, x.2.2.2.2.2.2.2.1, x.2.2.2.2.2.2.2.2)
abbrev R_set_readSoFar (x : RT) (v : Int32) : RT := (x.1, x.2.1, x.2.2.1, x.2.2.2.1, x.2.2.2.2.1, v, x.2.2.2.2.2.2.1, x.2.2.2.2.2.2.2.1, x.2.2.2.2.2.2.2.2)
abbrev R_set_missedSoFar (x : RT) (v : Int32) : RT := (x.1, x.2.1, x.2.2.1, x.2.2.2.1, x.2.2.2.2.1, x.2.2.2.2.2.1, v, x.2.2.2.2.2.2.2.1, x.2.2.2.2.2.2.2.2)
abbrev R_set_lastRead (x : RT) (v : Int32) : RT := (x.1, x.2.1, x.2.2.1, x.2.2.2.1, x.2.2.2.2.1, x.2.2.2.2.2.1, x.2.2.2.2.2.2.1, v, x.2.2.2.2.2.2.2.2)
abbrev R_set_lostBy (x : RT) (v : Int32) : RT := (x.1, x.2.1, x.2.2.1, x.2.2.2.1, x.2.2.2.2.1, x.2.2.2.2.2.1, x.2.2.2.2.2.2.1, x.2.2.2.2.2.2.2.1, v)
def oR (b : Nat) (x : RT) : Nat → Value := fun k => match k with
  | 0 => .ref (b + 1)
  | 1 => .int (R_present x)
  | 2 => .int (R_hasLeft x)
  | 3 => .int (R_held x)
  | 4 => .int (R_place x)
  | 5 => .int (R_readSoFar x)
  | 6 => .int (R_missedSoFar x)
  | 7 => .int (R_lastRead x)
  | 8 => .int (R_lostBy x)
  | _ => .null
def cR (b : Nat) (x : RT) (i : Nat) : zE := if i < 1 then (2, 9, oR b x) else zia 8 (R_values x)
def RA (b : Nat) (x : RT) (G : zG) : Prop := ∀ i, i < 2 → G (b + i) = some (cR b x i)
theorem R_obj {b : Nat} {x : RT} {G : zG} (h : RA b x G) : G b = some (2, 9, oR b x) := h 0 (by decide)
theorem RA.fr {b : Nat} {x : RT} {G : zG} (h : RA b x G) {a m : Nat} {G1 : zG} (hf : Fr a m G G1) (hd : b + 2 ≤ a ∨ a + m ≤ b) : RA b x G1 := fun i hi => (hf (b + i) (by omega)).trans (h i hi)
theorem RA.eq {b : Nat} {x : RT} {G : zG} (h : RA b x G) {G1 : zG} (hf : ∀ q, b ≤ q → q < b + 2 → G1 q = G q) : RA b x G1 := fun i hi => (hf (b + i) (by omega) (by omega)).trans (h i hi)
theorem R_values_of {b : Nat} {x : RT} {G : zG} (h : RA b x G) : G (b + 1) = some (zia 8 (R_values x)) := h 1 (by decide)
theorem R_put_values {b : Nat} {x : RT} {G : zG} (h : RA b x G) {v : Nat → Int32} {G1 : zG} (hv : G1 (b + 1) = some (zia 8 v)) (hf : Fr (b + 1) 1 G G1) : RA b (R_set_values x v) G1 := by
  intro i hi
  by_cases q : i = 1
  · subst q
    exact hv
  · rw [hf (b + i) (by omega), h i hi]
    unfold cR
    split
    · rfl
    exact False.elim (by omega)
theorem R_w_present_o (b : Nat) (x : RT) (v : Int32) : updV (oR b x) 1 (.int v) = oR b (R_set_present x v) := by
  funext j
  match j with
  | 0 => rfl
  | 1 => rfl
  | 2 => rfl
  | 3 => rfl
  | 4 => rfl
  | 5 => rfl
  | 6 => rfl
  | 7 => rfl
  | 8 => rfl
  | j + 9 => exact if_neg (by omega)
theorem R_w_present {b : Nat} {x : RT} {G : zG} (h : RA b x G) {v : Int32} {G1 : zG} (hw : Wr G b (2, 9, updV (oR b x) 1 (.int v)) G1) : RA b (R_set_present x v) G1 := by
  intro i hi
  by_cases q : i = 0
  · subst q
    rw [R_w_present_o] at hw
    exact hw.1
  · rw [hw.2 (b + i) (by omega), h i hi]
    unfold cR
    have hc : ¬ i < 1 := by omega
    rw [if_neg hc, if_neg hc]
theorem R_w_hasLeft_o (b : Nat) (x : RT) (v : Int32) : updV (oR b x) 2 (.int v) = oR b (R_set_hasLeft x v) := by
  funext j
  match j with
  | 0 => rfl
  | 1 => rfl
  | 2 => rfl
  | 3 => rfl
  | 4 => rfl
  | 5 => rfl
  | 6 => rfl
  | 7 => rfl
  | 8 => rfl
  | j + 9 => exact if_neg (by omega)
theorem R_w_hasLeft {b : Nat} {x : RT} {G : zG} (h : RA b x G) {v : Int32} {G1 : zG} (hw : Wr G b (2, 9, updV (oR b x) 2 (.int v)) G1) : RA b (R_set_hasLeft x v) G1 := by
  intro i hi
  by_cases q : i = 0
  · subst q
    rw [R_w_hasLeft_o] at hw
    exact hw.1
  · rw [hw.2 (b + i) (by omega), h i hi]
    unfold cR
    have hc : ¬ i < 1 := by omega
    rw [if_neg hc, if_neg hc]
theorem R_w_held_o (b : Nat) (x : RT) (v : Int32) : updV (oR b x) 3 (.int v) = oR b (R_set_held x v) := by
  funext j
  match j with
  | 0 => rfl
  | 1 => rfl
  | 2 => rfl
  | 3 => rfl
  | 4 => rfl
  | 5 => rfl
  | 6 => rfl
  | 7 => rfl
  | 8 => rfl
  | j + 9 => exact if_neg (by omega)
theorem R_w_held {b : Nat} {x : RT} {G : zG} (h : RA b x G) {v : Int32} {G1 : zG} (hw : Wr G b (2, 9, updV (oR b x) 3 (.int v)) G1) : RA b (R_set_held x v) G1 := by
  intro i hi
  by_cases q : i = 0
  · subst q
    rw [R_w_held_o] at hw
    exact hw.1
  · rw [hw.2 (b + i) (by omega), h i hi]
    unfold cR
    have hc : ¬ i < 1 := by omega
    rw [if_neg hc, if_neg hc]
theorem R_w_place_o (b : Nat) (x : RT) (v : Int32) : updV (oR b x) 4 (.int v) = oR b (R_set_place x v) := by
  funext j
  match j with
  | 0 => rfl
  | 1 => rfl
  | 2 => rfl
  | 3 => rfl
  | 4 => rfl
  | 5 => rfl
  | 6 => rfl
  | 7 => rfl
  | 8 => rfl
  | j + 9 => exact if_neg (by omega)
theorem R_w_place {b : Nat} {x : RT} {G : zG} (h : RA b x G) {v : Int32} {G1 : zG} (hw : Wr G b (2, 9, updV (oR b x) 4 (.int v)) G1) : RA b (R_set_place x v) G1 := by
  intro i hi
  by_cases q : i = 0
  · subst q
    rw [R_w_place_o] at hw
    exact hw.1
  · rw [hw.2 (b + i) (by omega), h i hi]
    unfold cR
    have hc : ¬ i < 1 := by omega
    rw [if_neg hc, if_neg hc]
theorem R_w_readSoFar_o (b : Nat) (x : RT) (v : Int32) : updV (oR b x) 5 (.int v) = oR b (R_set_readSoFar x v) := by
  funext j
  match j with
  | 0 => rfl
  | 1 => rfl
  | 2 => rfl
  | 3 => rfl
  | 4 => rfl
  | 5 => rfl
  | 6 => rfl
  | 7 => rfl
  | 8 => rfl
  | j + 9 => exact if_neg (by omega)
theorem R_w_readSoFar {b : Nat} {x : RT} {G : zG} (h : RA b x G) {v : Int32} {G1 : zG} (hw : Wr G b (2, 9, updV (oR b x) 5 (.int v)) G1) : RA b (R_set_readSoFar x v) G1 := by
  intro i hi
  by_cases q : i = 0
  · subst q
    rw [R_w_readSoFar_o] at hw
    exact hw.1
  · rw [hw.2 (b + i) (by omega), h i hi]
    unfold cR
    have hc : ¬ i < 1 := by omega
    rw [if_neg hc, if_neg hc]
theorem R_w_missedSoFar_o (b : Nat) (x : RT) (v : Int32) : updV (oR b x) 6 (.int v) = oR b (R_set_missedSoFar x v) := by
  funext j
  match j with
  | 0 => rfl
  | 1 => rfl
  | 2 => rfl
  | 3 => rfl
  | 4 => rfl
  | 5 => rfl
  | 6 => rfl
  | 7 => rfl
  | 8 => rfl
  | j + 9 => exact if_neg (by omega)
theorem R_w_missedSoFar {b : Nat} {x : RT} {G : zG} (h : RA b x G) {v : Int32} {G1 : zG} (hw : Wr G b (2, 9, updV (oR b x) 6 (.int v)) G1) : RA b (R_set_missedSoFar x v) G1 := by
  intro i hi
  by_cases q : i = 0
  · subst q
    rw [R_w_missedSoFar_o] at hw
    exact hw.1
  · rw [hw.2 (b + i) (by omega), h i hi]
    unfold cR
    have hc : ¬ i < 1 := by omega
    rw [if_neg hc, if_neg hc]
theorem R_w_lastRead_o (b : Nat) (x : RT) (v : Int32) : updV (oR b x) 7 (.int v) = oR b (R_set_lastRead x v) := by
  funext j
  match j with
  | 0 => rfl
  | 1 => rfl
  | 2 => rfl
  | 3 => rfl
  | 4 => rfl
  | 5 => rfl
  | 6 => rfl
  | 7 => rfl
  | 8 => rfl
  | j + 9 => exact if_neg (by omega)
theorem R_w_lastRead {b : Nat} {x : RT} {G : zG} (h : RA b x G) {v : Int32} {G1 : zG} (hw : Wr G b (2, 9, updV (oR b x) 7 (.int v)) G1) : RA b (R_set_lastRead x v) G1 := by
  intro i hi
  by_cases q : i = 0
  · subst q
    rw [R_w_lastRead_o] at hw
    exact hw.1
  · rw [hw.2 (b + i) (by omega), h i hi]
    unfold cR
    have hc : ¬ i < 1 := by omega
    rw [if_neg hc, if_neg hc]
theorem R_w_lostBy_o (b : Nat) (x : RT) (v : Int32) : updV (oR b x) 8 (.int v) = oR b (R_set_lostBy x v) := by
  funext j
  match j with
  | 0 => rfl
  | 1 => rfl
  | 2 => rfl
  | 3 => rfl
  | 4 => rfl
  | 5 => rfl
  | 6 => rfl
  | 7 => rfl
  | 8 => rfl
  | j + 9 => exact if_neg (by omega)
theorem R_w_lostBy {b : Nat} {x : RT} {G : zG} (h : RA b x G) {v : Int32} {G1 : zG} (hw : Wr G b (2, 9, updV (oR b x) 8 (.int v)) G1) : RA b (R_set_lostBy x v) G1 := by
  intro i hi
  by_cases q : i = 0
  · subst q
    rw [R_w_lostBy_o] at hw
    exact hw.1
  · rw [hw.2 (b + i) (by omega), h i hi]
    unfold cR
    have hc : ¬ i < 1 := by omega
    rw [if_neg hc, if_neg hc]
abbrev ST : Type := LT × (Nat → RT) × (Nat → Int32) × Int32 × Int32 × Int32 × Int32
abbrev S_log (x : ST) : LT := x.1
abbrev S_readers (x : ST) : (Nat → RT) := x.2.1
abbrev S_settings (x : ST) : (Nat → Int32) := x.2.2.1
abbrev S_time (x : ST) : Int32 := x.2.2.2.1
abbrev S_lostByLength (x : ST) : Int32 := x.2.2.2.2.1
abbrev S_lostBySleep (x : ST) : Int32 := x.2.2.2.2.2.1
abbrev S_missed (x : ST) : Int32 := x.2.2.2.2.2.2
abbrev S_set_log (x : ST) (v : LT) : ST := (v, x.2.1, x.2.2.1, x.2.2.2.1, x.2.2.2.2.1, x.2.2.2.2.2.1, x.2.2.2.2.2.2)
abbrev S_set_readers (x : ST) (v : (Nat → RT)) : ST := (x.1, v, x.2.2.1, x.2.2.2.1, x.2.2.2.2.1, x.2.2.2.2.2.1, x.2.2.2.2.2.2)
abbrev S_seti_readers (x : ST) (i : Nat) (v : RT) : ST := S_set_readers x (fun j => if j = i then v else S_readers x j)
abbrev S_set_settings (x : ST) (v : (Nat → Int32)) : ST := (x.1, x.2.1, v, x.2.2.2.1, x.2.2.2.2.1, x.2.2.2.2.2.1, x.2.2.2.2.2.2)
abbrev S_set_time (x : ST) (v : Int32) : ST := (x.1, x.2.1, x.2.2.1, v, x.2.2.2.2.1, x.2.2.2.2.2.1, x.2.2.2.2.2.2)
abbrev S_set_lostByLength (x : ST) (v : Int32) : ST := (x.1, x.2.1, x.2.2.1, x.2.2.2.1, v, x.2.2.2.2.2.1, x.2.2.2.2.2.2)
abbrev S_set_lostBySleep (x : ST) (v : Int32) : ST := (x.1, x.2.1, x.2.2.1, x.2.2.2.1, x.2.2.2.2.1, v, x.2.2.2.2.2.2)
abbrev S_set_missed (x : ST) (v : Int32) : ST := (x.1, x.2.1, x.2.2.1, x.2.2.2.1, x.2.2.2.2.1, x.2.2.2.2.2.1, v)
def oS (b : Nat) (x : ST) : Nat → Value := fun k => match k with
  | 0 => .ref (b + 1)
  | 1 => .ref (b + 8)
  | 2 => .ref (b + 9)
  | 3 => .int (S_time x)
  | 4 => .int (S_lostByLength x)
  | 5 => .int (S_lostBySleep x)
  | 6 => .int (S_missed x)
  | _ => .null
def cS (b : Nat) (x : ST) (i : Nat) : zE := if i < 1 then (3, 7, oS b x) else if i < 8 then cL (b + 1) (S_log x) (i - 1) else if i < 9 then (104, 8, fun j => .ref (b + 10 + 2 * j)) else if i < 10 then zia 6 (S_settings x) else cR (b + 10 + 2 * ((i - 10) / 2)) (S_readers x ((i - 10) / 2)) ((i - 10) % 2)
def SA (b : Nat) (x : ST) (G : zG) : Prop := ∀ i, i < 26 → G (b + i) = some (cS b x i)
theorem S_obj {b : Nat} {x : ST} {G : zG} (h : SA b x G) : G b = some (3, 7, oS b x) := h 0 (by decide)
theorem SA.fr {b : Nat} {x : ST} {G : zG} (h : SA b x G) {a m : Nat} {G1 : zG} (hf : Fr a m G G1) (hd : b + 26 ≤ a ∨ a + m ≤ b) : SA b x G1 := fun i hi => (hf (b + i) (by omega)).trans (h i hi)
theorem SA.eq {b : Nat} {x : ST} {G : zG} (h : SA b x G) {G1 : zG} (hf : ∀ q, b ≤ q → q < b + 26 → G1 q = G q) : SA b x G1 := fun i hi => (hf (b + i) (by omega) (by omega)).trans (h i hi)
theorem S_log_of {b : Nat} {x : ST} {G : zG} (h : SA b x G)   : LA (b + 1) (S_log x) G := by
  intro i hi
  have e := h (1 + i) (by omega)
  rw [show b + (1 + i) = b + 1 + i by omega] at e
  rw [e]
  unfold cS
  rw [if_neg (by omega)]
  rw [if_pos (by omega)]
  rw [show 1 + i - 1 = i by omega]
theorem S_readers_row {b : Nat} {x : ST} {G : zG} (h : SA b x G) : G (b + 8) = some (104, 8, fun j => .ref (b + 10 + 2 * j)) := h 8 (by decide)
theorem S_readers_of {b : Nat} {x : ST} {G : zG} (h : SA b x G) {j : Nat} (hj : j < 8) : RA (b + 10 + 2 * j) (S_readers x j) G := by
  intro i hi
  have e := h (10 + 2 * j + i) (by omega)
  rw [show b + (10 + 2 * j + i) = b + 10 + 2 * j + i by omega] at e
  rw [e]
  unfold cS
  rw [if_neg (by omega)]
  rw [if_neg (by omega)]
  rw [if_neg (by omega)]
  rw [if_neg (by omega)]
  rw [show (10 + 2 * j + i - 10) / 2 = j by omega, show (10 + 2 * j + i - 10) % 2 = i by omega]
theorem S_settings_of {b : Nat} {x : ST} {G : zG} (h : SA b x G) : G (b + 9) = some (zia 6 (S_settings x)) := h 9 (by decide)
theorem S_put_log {b : Nat} {x : ST} {G : zG} (h : SA b x G) {v : LT} {G1 : zG} (hv : LA (b + 1) v G1) (hf : Fr (b + 1) 7 G G1) : SA b (S_set_log x v) G1 := by
  intro i hi
  by_cases q : 1 ≤ i ∧ i < 8
  · have e := hv (i - 1) (by omega)
    rw [show b + 1 + (i - 1) = b + i by omega] at e
    rw [e]
    unfold cS
    rw [if_neg (by omega)]
    rw [if_pos (by omega)]
  · rw [hf (b + i) (by omega), h i hi]
    unfold cS
    split
    · rfl
    have hc : ¬ i < 8 := by omega
    rw [if_neg hc, if_neg hc]
theorem S_put_readers {b : Nat} {x : ST} {G : zG} (h : SA b x G) {j : Nat} (hj : j < 8) {v : RT} {G1 : zG} (hv : RA (b + 10 + 2 * j) v G1) (hf : Fr (b + 10 + 2 * j) 2 G G1) : SA b (S_seti_readers x j v) G1 := by
  intro i hi
  by_cases q : 10 + 2 * j ≤ i ∧ i < 10 + 2 * j + 2
  · have e := hv (i - (10 + 2 * j)) (by omega)
    rw [show b + 10 + 2 * j + (i - (10 + 2 * j)) = b + i by omega] at e
    rw [e]
    unfold cS
    rw [if_neg (by omega)]
    rw [if_neg (by omega)]
    rw [if_neg (by omega)]
    rw [if_neg (by omega)]
    rw [show (i - 10) / 2 = j by omega, show (i - 10) % 2 = i - (10 + 2 * j) by omega]
    show some (cR _ v _) = some (cR _ (if j = j then v else _) _)
    rw [if_pos rfl]
  · rw [hf (b + i) (by omega), h i hi]
    unfold cS
    split
    · rfl
    split
    · rfl
    split
    · rfl
    split
    · rfl
    show some (cR _ _ _) = some (cR _ (if _ = j then v else _) _)
    rw [if_neg (by omega)]
theorem S_put_settings {b : Nat} {x : ST} {G : zG} (h : SA b x G) {v : Nat → Int32} {G1 : zG} (hv : G1 (b + 9) = some (zia 6 v)) (hf : Fr (b + 9) 1 G G1) : SA b (S_set_settings x v) G1 := by
  intro i hi
  by_cases q : i = 9
  · subst q
    exact hv
  · rw [hf (b + i) (by omega), h i hi]
    unfold cS
    split
    · rfl
    split
    · rfl
    split
    · rfl
    have hc : ¬ i < 10 := by omega
    rw [if_neg hc, if_neg hc]
theorem S_w_time_o (b : Nat) (x : ST) (v : Int32) : updV (oS b x) 3 (.int v) = oS b (S_set_time x v) := by
  funext j
  match j with
  | 0 => rfl
  | 1 => rfl
  | 2 => rfl
  | 3 => rfl
  | 4 => rfl
  | 5 => rfl
  | 6 => rfl
  | j + 7 => exact if_neg (by omega)
theorem S_w_time {b : Nat} {x : ST} {G : zG} (h : SA b x G) {v : Int32} {G1 : zG} (hw : Wr G b (3, 7, updV (oS b x) 3 (.int v)) G1) : SA b (S_set_time x v) G1 := by
  intro i hi
  by_cases q : i = 0
  · subst q
    rw [S_w_time_o] at hw
    exact hw.1
  · rw [hw.2 (b + i) (by omega), h i hi]
    unfold cS
    have hc : ¬ i < 1 := by omega
    rw [if_neg hc, if_neg hc]
theorem S_w_lostByLength_o (b : Nat) (x : ST) (v : Int32) : updV (oS b x) 4 (.int v) = oS b (S_set_lostByLength x v) := by
  funext j
  match j with
  | 0 => rfl
  | 1 => rfl
  | 2 => rfl
  | 3 => rfl
  | 4 => rfl
  | 5 => rfl
  | 6 => rfl
  | j + 7 => exact if_neg (by omega)
theorem S_w_lostByLength {b : Nat} {x : ST} {G : zG} (h : SA b x G) {v : Int32} {G1 : zG} (hw : Wr G b (3, 7, updV (oS b x) 4 (.int v)) G1) : SA b (S_set_lostByLength x v) G1 := by
  intro i hi
  by_cases q : i = 0
  · subst q
    rw [S_w_lostByLength_o] at hw
    exact hw.1
  · rw [hw.2 (b + i) (by omega), h i hi]
    unfold cS
    have hc : ¬ i < 1 := by omega
    rw [if_neg hc, if_neg hc]
theorem S_w_lostBySleep_o (b : Nat) (x : ST) (v : Int32) : updV (oS b x) 5 (.int v) = oS b (S_set_lostBySleep x v) := by
  funext j
  match j with
  | 0 => rfl
  | 1 => rfl
  | 2 => rfl
  | 3 => rfl
  | 4 => rfl
  | 5 => rfl
  | 6 => rfl
  | j + 7 => exact if_neg (by omega)
theorem S_w_lostBySleep {b : Nat} {x : ST} {G : zG} (h : SA b x G) {v : Int32} {G1 : zG} (hw : Wr G b (3, 7, updV (oS b x) 5 (.int v)) G1) : SA b (S_set_lostBySleep x v) G1 := by
  intro i hi
  by_cases q : i = 0
  · subst q
    rw [S_w_lostBySleep_o] at hw
    exact hw.1
  · rw [hw.2 (b + i) (by omega), h i hi]
    unfold cS
    have hc : ¬ i < 1 := by omega
    rw [if_neg hc, if_neg hc]
theorem S_w_missed_o (b : Nat) (x : ST) (v : Int32) : updV (oS b x) 6 (.int v) = oS b (S_set_missed x v) := by
  funext j
  match j with
  | 0 => rfl
  | 1 => rfl
  | 2 => rfl
  | 3 => rfl
  | 4 => rfl
  | 5 => rfl
  | 6 => rfl
  | j + 7 => exact if_neg (by omega)
theorem S_w_missed {b : Nat} {x : ST} {G : zG} (h : SA b x G) {v : Int32} {G1 : zG} (hw : Wr G b (3, 7, updV (oS b x) 6 (.int v)) G1) : SA b (S_set_missed x v) G1 := by
  intro i hi
  by_cases q : i = 0
  · subst q
    rw [S_w_missed_o] at hw
    exact hw.1
  · rw [hw.2 (b + i) (by omega), h i hi]
    unfold cS
    have hc : ¬ i < 1 := by omega
    rw [if_neg hc, if_neg hc]
abbrev XT : Type := (Nat → Int32) × Int32 × Int32 × Int32 × Int32 × Int32 × Int32 × Int32
abbrev X_signs (x : XT) : (Nat → Int32) := x.1
abbrev X_length (x : XT) : Int32 := x.2.1
abbrev X_position (x : XT) : Int32 := x.2.2.1
abbrev X_wrong (x : XT) : Int32 := x.2.2.2.1
abbrev X_action (x : XT) : Int32 := x.2.2.2.2.1
abbrev X_a (x : XT) : Int32 := x.2.2.2.2.2.1
abbrev X_b (x : XT) : Int32 := x.2.2.2.2.2.2.1
abbrev X_c (x : XT) : Int32 := x.2.2.2.2.2.2.2
abbrev X_set_signs (x : XT) (v : (Nat → Int32)) : XT := (v, x.2.1, x.2.2.1, x.2.2.2.1, x.2.2.2.2.1, x.2.2.2.2.2.1, x.2.2.2.2.2.2.1, x.2.2.2.2.2.2.2)
abbrev X_set_length (x : XT) (v : Int32) : XT := (x.1, v, x.2.2.1, x.2.2.2.1, x.2.2.2.2.1, x.2.2.2.2.2.1, x.2.2.2.2.2.2.1, x.2.2.2.2.2.2.2)
abbrev X_set_position (x : XT) (v : Int32) : XT := (x.1, x.2.1, v, x.2.2.2.1, x.2.2.2.2.1, x.2.2.2.2.2.1, x.2.2.2.2.2.2.1, x.2.2.2.2.2.2.2)
abbrev X_set_wrong (x : XT) (v : Int32) : XT := (x.1, x.2.1, x.2.2.1, v, x.2.2.2.2.1, x.2.2.2.2.2.1, x.2.2.2.2.2.2.1, x.2.2.2.2.2.2.2)
abbrev X_set_action (x : XT) (v : Int32) : XT := (x.1, x.2.1, x.2.2.1, x.2.2.2.1, v, x.2.2.2.2.2.1, x.2.2.2.2.2.2.1, x.2.2.2.2.2.2.2)
abbrev X_set_a (x : XT) (v : Int32) : XT := (x.1, x.2.1, x.2.2.1, x.2.2.2.1, x.2.2.2.2.1, v, x.2.2.2.2.2.2.1, x.2.2.2.2.2.2.2)
abbrev X_set_b (x : XT) (v : Int32) : XT := (x.1, x.2.1, x.2.2.1, x.2.2.2.1, x.2.2.2.2.1, x.2.2.2.2.2.1, v, x.2.2.2.2.2.2.2)
abbrev X_set_c (x : XT) (v : Int32) : XT := (x.1, x.2.1, x.2.2.1, x.2.2.2.1, x.2.2.2.2.1, x.2.2.2.2.2.1, x.2.2.2.2.2.2.1, v)
def oX (b : Nat) (x : XT) : Nat → Value := fun k => match k with
  | 0 => .ref (b + 1)
  | 1 => .int (X_length x)
  | 2 => .int (X_position x)
  | 3 => .int (X_wrong x)
  | 4 => .int (X_action x)
  | 5 => .int (X_a x)
  | 6 => .int (X_b x)
  | 7 => .int (X_c x)
  | _ => .null
def cX (b : Nat) (x : XT) (i : Nat) : zE := if i < 1 then (4, 8, oX b x) else zca 120 (X_signs x)
def XA (b : Nat) (x : XT) (G : zG) : Prop := ∀ i, i < 2 → G (b + i) = some (cX b x i)
theorem X_obj {b : Nat} {x : XT} {G : zG} (h : XA b x G) : G b = some (4, 8, oX b x) := h 0 (by decide)
theorem XA.fr {b : Nat} {x : XT} {G : zG} (h : XA b x G) {a m : Nat} {G1 : zG} (hf : Fr a m G G1) (hd : b + 2 ≤ a ∨ a + m ≤ b) : XA b x G1 := fun i hi => (hf (b + i) (by omega)).trans (h i hi)
theorem XA.eq {b : Nat} {x : XT} {G : zG} (h : XA b x G) {G1 : zG} (hf : ∀ q, b ≤ q → q < b + 2 → G1 q = G q) : XA b x G1 := fun i hi => (hf (b + i) (by omega) (by omega)).trans (h i hi)
theorem X_signs_of {b : Nat} {x : XT} {G : zG} (h : XA b x G) : G (b + 1) = some (zca 120 (X_signs x)) := h 1 (by decide)
theorem X_put_signs {b : Nat} {x : XT} {G : zG} (h : XA b x G) {v : Nat → Int32} {G1 : zG} (hv : G1 (b + 1) = some (zca 120 v)) (hf : Fr (b + 1) 1 G G1) : XA b (X_set_signs x v) G1 := by
  intro i hi
  by_cases q : i = 1
  · subst q
    exact hv
  · rw [hf (b + i) (by omega), h i hi]
    unfold cX
    split
    · rfl
    exact False.elim (by omega)
theorem X_w_length_o (b : Nat) (x : XT) (v : Int32) : updV (oX b x) 1 (.int v) = oX b (X_set_length x v) := by
  funext j
  match j with
  | 0 => rfl
  | 1 => rfl
  | 2 => rfl
  | 3 => rfl
  | 4 => rfl
  | 5 => rfl
  | 6 => rfl
  | 7 => rfl
  | j + 8 => exact if_neg (by omega)
theorem X_w_length {b : Nat} {x : XT} {G : zG} (h : XA b x G) {v : Int32} {G1 : zG} (hw : Wr G b (4, 8, updV (oX b x) 1 (.int v)) G1) : XA b (X_set_length x v) G1 := by
  intro i hi
  by_cases q : i = 0
  · subst q
    rw [X_w_length_o] at hw
    exact hw.1
  · rw [hw.2 (b + i) (by omega), h i hi]
    unfold cX
    have hc : ¬ i < 1 := by omega
    rw [if_neg hc, if_neg hc]
theorem X_w_position_o (b : Nat) (x : XT) (v : Int32) : updV (oX b x) 2 (.int v) = oX b (X_set_position x v) := by
  funext j
  match j with
  | 0 => rfl
  | 1 => rfl
  | 2 => rfl
  | 3 => rfl
  | 4 => rfl
  | 5 => rfl
  | 6 => rfl
  | 7 => rfl
  | j + 8 => exact if_neg (by omega)
theorem X_w_position {b : Nat} {x : XT} {G : zG} (h : XA b x G) {v : Int32} {G1 : zG} (hw : Wr G b (4, 8, updV (oX b x) 2 (.int v)) G1) : XA b (X_set_position x v) G1 := by
  intro i hi
  by_cases q : i = 0
  · subst q
    rw [X_w_position_o] at hw
    exact hw.1
  · rw [hw.2 (b + i) (by omega), h i hi]
    unfold cX
    have hc : ¬ i < 1 := by omega
    rw [if_neg hc, if_neg hc]
theorem X_w_wrong_o (b : Nat) (x : XT) (v : Int32) : updV (oX b x) 3 (.int v) = oX b (X_set_wrong x v) := by
  funext j
  match j with
  | 0 => rfl
  | 1 => rfl
  | 2 => rfl
  | 3 => rfl
  | 4 => rfl
  | 5 => rfl
  | 6 => rfl
  | 7 => rfl
  | j + 8 => exact if_neg (by omega)
theorem X_w_wrong {b : Nat} {x : XT} {G : zG} (h : XA b x G) {v : Int32} {G1 : zG} (hw : Wr G b (4, 8, updV (oX b x) 3 (.int v)) G1) : XA b (X_set_wrong x v) G1 := by
  intro i hi
  by_cases q : i = 0
  · subst q
    rw [X_w_wrong_o] at hw
    exact hw.1
  · rw [hw.2 (b + i) (by omega), h i hi]
    unfold cX
    have hc : ¬ i < 1 := by omega
    rw [if_neg hc, if_neg hc]
theorem X_w_action_o (b : Nat) (x : XT) (v : Int32) : updV (oX b x) 4 (.int v) = oX b (X_set_action x v) := by
  funext j
  match j with
  | 0 => rfl
  | 1 => rfl
  | 2 => rfl
  | 3 => rfl
  | 4 => rfl
  | 5 => rfl
  | 6 => rfl
  | 7 => rfl
  | j + 8 => exact if_neg (by omega)
theorem X_w_action {b : Nat} {x : XT} {G : zG} (h : XA b x G) {v : Int32} {G1 : zG} (hw : Wr G b (4, 8, updV (oX b x) 4 (.int v)) G1) : XA b (X_set_action x v) G1 := by
  intro i hi
  by_cases q : i = 0
  · subst q
    rw [X_w_action_o] at hw
    exact hw.1
  · rw [hw.2 (b + i) (by omega), h i hi]
    unfold cX
    have hc : ¬ i < 1 := by omega
    rw [if_neg hc, if_neg hc]
theorem X_w_a_o (b : Nat) (x : XT) (v : Int32) : updV (oX b x) 5 (.int v) = oX b (X_set_a x v) := by
  funext j
  match j with
  | 0 => rfl
  | 1 => rfl
  | 2 => rfl
  | 3 => rfl
  | 4 => rfl
  | 5 => rfl
  | 6 => rfl
  | 7 => rfl
  | j + 8 => exact if_neg (by omega)
theorem X_w_a {b : Nat} {x : XT} {G : zG} (h : XA b x G) {v : Int32} {G1 : zG} (hw : Wr G b (4, 8, updV (oX b x) 5 (.int v)) G1) : XA b (X_set_a x v) G1 := by
  intro i hi
  by_cases q : i = 0
  · subst q
    rw [X_w_a_o] at hw
    exact hw.1
  · rw [hw.2 (b + i) (by omega), h i hi]
    unfold cX
    have hc : ¬ i < 1 := by omega
    rw [if_neg hc, if_neg hc]
theorem X_w_b_o (b : Nat) (x : XT) (v : Int32) : updV (oX b x) 6 (.int v) = oX b (X_set_b x v) := by
  funext j
  match j with
  | 0 => rfl
  | 1 => rfl
  | 2 => rfl
  | 3 => rfl
  | 4 => rfl
  | 5 => rfl
  | 6 => rfl
  | 7 => rfl
  | j + 8 => exact if_neg (by omega)
theorem X_w_b {b : Nat} {x : XT} {G : zG} (h : XA b x G) {v : Int32} {G1 : zG} (hw : Wr G b (4, 8, updV (oX b x) 6 (.int v)) G1) : XA b (X_set_b x v) G1 := by
  intro i hi
  by_cases q : i = 0
  · subst q
    rw [X_w_b_o] at hw
    exact hw.1
  · rw [hw.2 (b + i) (by omega), h i hi]
    unfold cX
    have hc : ¬ i < 1 := by omega
    rw [if_neg hc, if_neg hc]
theorem X_w_c_o (b : Nat) (x : XT) (v : Int32) : updV (oX b x) 7 (.int v) = oX b (X_set_c x v) := by
  funext j
  match j with
  | 0 => rfl
  | 1 => rfl
  | 2 => rfl
  | 3 => rfl
  | 4 => rfl
  | 5 => rfl
  | 6 => rfl
  | 7 => rfl
  | j + 8 => exact if_neg (by omega)
theorem X_w_c {b : Nat} {x : XT} {G : zG} (h : XA b x G) {v : Int32} {G1 : zG} (hw : Wr G b (4, 8, updV (oX b x) 7 (.int v)) G1) : XA b (X_set_c x v) G1 := by
  intro i hi
  by_cases q : i = 0
  · subst q
    rw [X_w_c_o] at hw
    exact hw.1
  · rw [hw.2 (b + i) (by omega), h i hi]
    unfold cX
    have hc : ¬ i < 1 := by omega
    rw [if_neg hc, if_neg hc]
abbrev HT : Type := (Nat → ST) × Int32 × Int32
abbrev H_states (x : HT) : (Nat → ST) := x.1
abbrev H_next (x : HT) : Int32 := x.2.1
abbrev H_count (x : HT) : Int32 := x.2.2
abbrev H_set_states (x : HT) (v : (Nat → ST)) : HT := (v, x.2.1, x.2.2)
abbrev H_seti_states (x : HT) (i : Nat) (v : ST) : HT := H_set_states x (fun j => if j = i then v else H_states x j)
abbrev H_set_next (x : HT) (v : Int32) : HT := (x.1, v, x.2.2)
abbrev H_set_count (x : HT) (v : Int32) : HT := (x.1, x.2.1, v)
def oH (b : Nat) (x : HT) : Nat → Value := fun k => match k with
  | 0 => .ref (b + 1)
  | 1 => .int (H_next x)
  | 2 => .int (H_count x)
  | _ => .null
def cH (b : Nat) (x : HT) (i : Nat) : zE := if i < 1 then (0, 3, oH b x) else if i < 2 then (105, 14, fun j => .ref (b + 2 + 26 * j)) else cS (b + 2 + 26 * ((i - 2) / 26)) (H_states x ((i - 2) / 26)) ((i - 2) % 26)
def HA (b : Nat) (x : HT) (G : zG) : Prop := ∀ i, i < 366 → G (b + i) = some (cH b x i)
theorem H_obj {b : Nat} {x : HT} {G : zG} (h : HA b x G) : G b = some (0, 3, oH b x) := h 0 (by decide)
theorem HA.fr {b : Nat} {x : HT} {G : zG} (h : HA b x G) {a m : Nat} {G1 : zG} (hf : Fr a m G G1) (hd : b + 366 ≤ a ∨ a + m ≤ b) : HA b x G1 := fun i hi => (hf (b + i) (by omega)).trans (h i hi)
theorem HA.eq {b : Nat} {x : HT} {G : zG} (h : HA b x G) {G1 : zG} (hf : ∀ q, b ≤ q → q < b + 366 → G1 q = G q) : HA b x G1 := fun i hi => (hf (b + i) (by omega) (by omega)).trans (h i hi)
theorem H_states_row {b : Nat} {x : HT} {G : zG} (h : HA b x G) : G (b + 1) = some (105, 14, fun j => .ref (b + 2 + 26 * j)) := h 1 (by decide)
theorem H_states_of {b : Nat} {x : HT} {G : zG} (h : HA b x G) {j : Nat} (hj : j < 14) : SA (b + 2 + 26 * j) (H_states x j) G := by
  intro i hi
  have e := h (2 + 26 * j + i) (by omega)
  rw [show b + (2 + 26 * j + i) = b + 2 + 26 * j + i by omega] at e
  rw [e]
  unfold cH
  rw [if_neg (by omega)]
  rw [if_neg (by omega)]
  rw [show (2 + 26 * j + i - 2) / 26 = j by omega, show (2 + 26 * j + i - 2) % 26 = i by omega]
theorem H_put_states {b : Nat} {x : HT} {G : zG} (h : HA b x G) {j : Nat} (hj : j < 14) {v : ST} {G1 : zG} (hv : SA (b + 2 + 26 * j) v G1) (hf : Fr (b + 2 + 26 * j) 26 G G1) : HA b (H_seti_states x j v) G1 := by
  intro i hi
  by_cases q : 2 + 26 * j ≤ i ∧ i < 2 + 26 * j + 26
  · have e := hv (i - (2 + 26 * j)) (by omega)
    rw [show b + 2 + 26 * j + (i - (2 + 26 * j)) = b + i by omega] at e
    rw [e]
    unfold cH
    rw [if_neg (by omega)]
    rw [if_neg (by omega)]
    rw [show (i - 2) / 26 = j by omega, show (i - 2) % 26 = i - (2 + 26 * j) by omega]
    show some (cS _ v _) = some (cS _ (if j = j then v else _) _)
    rw [if_pos rfl]
  · rw [hf (b + i) (by omega), h i hi]
    unfold cH
    split
    · rfl
    split
    · rfl
    show some (cS _ _ _) = some (cS _ (if _ = j then v else _) _)
    rw [if_neg (by omega)]
theorem H_w_next_o (b : Nat) (x : HT) (v : Int32) : updV (oH b x) 1 (.int v) = oH b (H_set_next x v) := by
  funext j
  match j with
  | 0 => rfl
  | 1 => rfl
  | 2 => rfl
  | j + 3 => exact if_neg (by omega)
theorem H_w_next {b : Nat} {x : HT} {G : zG} (h : HA b x G) {v : Int32} {G1 : zG} (hw : Wr G b (0, 3, updV (oH b x) 1 (.int v)) G1) : HA b (H_set_next x v) G1 := by
  intro i hi
  by_cases q : i = 0
  · subst q
    rw [H_w_next_o] at hw
    exact hw.1
  · rw [hw.2 (b + i) (by omega), h i hi]
    unfold cH
    have hc : ¬ i < 1 := by omega
    rw [if_neg hc, if_neg hc]
theorem H_w_count_o (b : Nat) (x : HT) (v : Int32) : updV (oH b x) 2 (.int v) = oH b (H_set_count x v) := by
  funext j
  match j with
  | 0 => rfl
  | 1 => rfl
  | 2 => rfl
  | j + 3 => exact if_neg (by omega)
theorem H_w_count {b : Nat} {x : HT} {G : zG} (h : HA b x G) {v : Int32} {G1 : zG} (hw : Wr G b (0, 3, updV (oH b x) 2 (.int v)) G1) : HA b (H_set_count x v) G1 := by
  intro i hi
  by_cases q : i = 0
  · subst q
    rw [H_w_count_o] at hw
    exact hw.1
  · rw [hw.2 (b + i) (by omega), h i hi]
    unfold cH
    have hc : ¬ i < 1 := by omega
    rw [if_neg hc, if_neg hc]
abbrev TT : Type := XT × ST × ST × HT × (Nat → ST) × (Nat → Int32)
abbrev T_text (x : TT) : XT := x.1
abbrev T_state (x : TT) : ST := x.2.1
abbrev T_trial (x : TT) : ST := x.2.2.1
abbrev T_history (x : TT) : HT := x.2.2.2.1
abbrev T_slots (x : TT) : (Nat → ST) := x.2.2.2.2.1
abbrev T_filled (x : TT) : (Nat → Int32) := x.2.2.2.2.2
abbrev T_set_text (x : TT) (v : XT) : TT := (v, x.2.1, x.2.2.1, x.2.2.2.1, x.2.2.2.2.1, x.2.2.2.2.2)
abbrev T_set_state (x : TT) (v : ST) : TT := (x.1, v, x.2.2.1, x.2.2.2.1, x.2.2.2.2.1, x.2.2.2.2.2)
abbrev T_set_trial (x : TT) (v : ST) : TT := (x.1, x.2.1, v, x.2.2.2.1, x.2.2.2.2.1, x.2.2.2.2.2)
abbrev T_set_history (x : TT) (v : HT) : TT := (x.1, x.2.1, x.2.2.1, v, x.2.2.2.2.1, x.2.2.2.2.2)
abbrev T_set_slots (x : TT) (v : (Nat → ST)) : TT := (x.1, x.2.1, x.2.2.1, x.2.2.2.1, v, x.2.2.2.2.2)
abbrev T_seti_slots (x : TT) (i : Nat) (v : ST) : TT := T_set_slots x (fun j => if j = i then v else T_slots x j)
abbrev T_set_filled (x : TT) (v : (Nat → Int32)) : TT := (x.1, x.2.1, x.2.2.1, x.2.2.2.1, x.2.2.2.2.1, v)
def oT (b : Nat) (x : TT) : Nat → Value := fun k => match k with
  | 0 => .ref (b + 1)
  | 1 => .ref (b + 3)
  | 2 => .ref (b + 29)
  | 3 => .ref (b + 55)
  | 4 => .ref (b + 421)
  | 5 => .ref (b + 422)
  | _ => .null
def cT (b : Nat) (x : TT) (i : Nat) : zE := if i < 1 then (5, 6, oT b x) else if i < 3 then cX (b + 1) (T_text x) (i - 1) else if i < 29 then cS (b + 3) (T_state x) (i - 3) else if i < 55 then cS (b + 29) (T_trial x) (i - 29) else if i < 421 then cH (b + 55) (T_history x) (i - 55) else if i < 422 then (105, 2, fun j => .ref (b + 423 + 26 * j)) else if i < 423 then zba 2 (T_filled x) else cS (b + 423 + 26 * ((i - 423) / 26)) (T_slots x ((i - 423) / 26)) ((i - 423) % 26)
def TA (b : Nat) (x : TT) (G : zG) : Prop := ∀ i, i < 475 → G (b + i) = some (cT b x i)
theorem T_obj {b : Nat} {x : TT} {G : zG} (h : TA b x G) : G b = some (5, 6, oT b x) := h 0 (by decide)
theorem TA.fr {b : Nat} {x : TT} {G : zG} (h : TA b x G) {a m : Nat} {G1 : zG} (hf : Fr a m G G1) (hd : b + 475 ≤ a ∨ a + m ≤ b) : TA b x G1 := fun i hi => (hf (b + i) (by omega)).trans (h i hi)
theorem TA.eq {b : Nat} {x : TT} {G : zG} (h : TA b x G) {G1 : zG} (hf : ∀ q, b ≤ q → q < b + 475 → G1 q = G q) : TA b x G1 := fun i hi => (hf (b + i) (by omega) (by omega)).trans (h i hi)
theorem T_text_of {b : Nat} {x : TT} {G : zG} (h : TA b x G)   : XA (b + 1) (T_text x) G := by
  intro i hi
  have e := h (1 + i) (by omega)
  rw [show b + (1 + i) = b + 1 + i by omega] at e
  rw [e]
  unfold cT
  rw [if_neg (by omega)]
  rw [if_pos (by omega)]
  rw [show 1 + i - 1 = i by omega]
theorem T_state_of {b : Nat} {x : TT} {G : zG} (h : TA b x G)   : SA (b + 3) (T_state x) G := by
  intro i hi
  have e := h (3 + i) (by omega)
  rw [show b + (3 + i) = b + 3 + i by omega] at e
  rw [e]
  unfold cT
  rw [if_neg (by omega)]
  rw [if_neg (by omega)]
  rw [if_pos (by omega)]
  rw [show 3 + i - 3 = i by omega]
theorem T_trial_of {b : Nat} {x : TT} {G : zG} (h : TA b x G)   : SA (b + 29) (T_trial x) G := by
  intro i hi
  have e := h (29 + i) (by omega)
  rw [show b + (29 + i) = b + 29 + i by omega] at e
  rw [e]
  unfold cT
  rw [if_neg (by omega)]
  rw [if_neg (by omega)]
  rw [if_neg (by omega)]
  rw [if_pos (by omega)]
  rw [show 29 + i - 29 = i by omega]
theorem T_history_of {b : Nat} {x : TT} {G : zG} (h : TA b x G)   : HA (b + 55) (T_history x) G := by
  intro i hi
  have e := h (55 + i) (by omega)
  rw [show b + (55 + i) = b + 55 + i by omega] at e
  rw [e]
  unfold cT
  rw [if_neg (by omega)]
  rw [if_neg (by omega)]
  rw [if_neg (by omega)]
  rw [if_neg (by omega)]
  rw [if_pos (by omega)]
  rw [show 55 + i - 55 = i by omega]
theorem T_slots_row {b : Nat} {x : TT} {G : zG} (h : TA b x G) : G (b + 421) = some (105, 2, fun j => .ref (b + 423 + 26 * j)) := h 421 (by decide)
theorem T_slots_of {b : Nat} {x : TT} {G : zG} (h : TA b x G) {j : Nat} (hj : j < 2) : SA (b + 423 + 26 * j) (T_slots x j) G := by
  intro i hi
  have e := h (423 + 26 * j + i) (by omega)
  rw [show b + (423 + 26 * j + i) = b + 423 + 26 * j + i by omega] at e
  rw [e]
  unfold cT
  rw [if_neg (by omega)]
  rw [if_neg (by omega)]
  rw [if_neg (by omega)]
  rw [if_neg (by omega)]
  rw [if_neg (by omega)]
  rw [if_neg (by omega)]
  rw [if_neg (by omega)]
  rw [show (423 + 26 * j + i - 423) / 26 = j by omega, show (423 + 26 * j + i - 423) % 26 = i by omega]
theorem T_filled_of {b : Nat} {x : TT} {G : zG} (h : TA b x G) : G (b + 422) = some (zba 2 (T_filled x)) := h 422 (by decide)
theorem T_put_text {b : Nat} {x : TT} {G : zG} (h : TA b x G) {v : XT} {G1 : zG} (hv : XA (b + 1) v G1) (hf : Fr (b + 1) 2 G G1) : TA b (T_set_text x v) G1 := by
  intro i hi
  by_cases q : 1 ≤ i ∧ i < 3
  · have e := hv (i - 1) (by omega)
    rw [show b + 1 + (i - 1) = b + i by omega] at e
    rw [e]
    unfold cT
    rw [if_neg (by omega)]
    rw [if_pos (by omega)]
  · rw [hf (b + i) (by omega), h i hi]
    unfold cT
    split
    · rfl
    have hc : ¬ i < 3 := by omega
    rw [if_neg hc, if_neg hc]
theorem T_put_state {b : Nat} {x : TT} {G : zG} (h : TA b x G) {v : ST} {G1 : zG} (hv : SA (b + 3) v G1) (hf : Fr (b + 3) 26 G G1) : TA b (T_set_state x v) G1 := by
  intro i hi
  by_cases q : 3 ≤ i ∧ i < 29
  · have e := hv (i - 3) (by omega)
    rw [show b + 3 + (i - 3) = b + i by omega] at e
    rw [e]
    unfold cT
    rw [if_neg (by omega)]
    rw [if_neg (by omega)]
    rw [if_pos (by omega)]
  · rw [hf (b + i) (by omega), h i hi]
    unfold cT
    split
    · rfl
    split
    · rfl
    have hc : ¬ i < 29 := by omega
    rw [if_neg hc, if_neg hc]
theorem T_put_trial {b : Nat} {x : TT} {G : zG} (h : TA b x G) {v : ST} {G1 : zG} (hv : SA (b + 29) v G1) (hf : Fr (b + 29) 26 G G1) : TA b (T_set_trial x v) G1 := by
  intro i hi
  by_cases q : 29 ≤ i ∧ i < 55
  · have e := hv (i - 29) (by omega)
    rw [show b + 29 + (i - 29) = b + i by omega] at e
    rw [e]
    unfold cT
    rw [if_neg (by omega)]
    rw [if_neg (by omega)]
    rw [if_neg (by omega)]
    rw [if_pos (by omega)]
  · rw [hf (b + i) (by omega), h i hi]
    unfold cT
    split
    · rfl
    split
    · rfl
    split
    · rfl
    have hc : ¬ i < 55 := by omega
    rw [if_neg hc, if_neg hc]
theorem T_put_history {b : Nat} {x : TT} {G : zG} (h : TA b x G) {v : HT} {G1 : zG} (hv : HA (b + 55) v G1) (hf : Fr (b + 55) 366 G G1) : TA b (T_set_history x v) G1 := by
  intro i hi
  by_cases q : 55 ≤ i ∧ i < 421
  · have e := hv (i - 55) (by omega)
    rw [show b + 55 + (i - 55) = b + i by omega] at e
    rw [e]
    unfold cT
    rw [if_neg (by omega)]
    rw [if_neg (by omega)]
    rw [if_neg (by omega)]
    rw [if_neg (by omega)]
    rw [if_pos (by omega)]
  · rw [hf (b + i) (by omega), h i hi]
    unfold cT
    split
    · rfl
    split
    · rfl
    split
    · rfl
    split
    · rfl
    have hc : ¬ i < 421 := by omega
    rw [if_neg hc, if_neg hc]
theorem T_put_slots {b : Nat} {x : TT} {G : zG} (h : TA b x G) {j : Nat} (hj : j < 2) {v : ST} {G1 : zG} (hv : SA (b + 423 + 26 * j) v G1) (hf : Fr (b + 423 + 26 * j) 26 G G1) : TA b (T_seti_slots x j v) G1 := by
  intro i hi
  by_cases q : 423 + 26 * j ≤ i ∧ i < 423 + 26 * j + 26
  · have e := hv (i - (423 + 26 * j)) (by omega)
    rw [show b + 423 + 26 * j + (i - (423 + 26 * j)) = b + i by omega] at e
    rw [e]
    unfold cT
    rw [if_neg (by omega)]
    rw [if_neg (by omega)]
    rw [if_neg (by omega)]
    rw [if_neg (by omega)]
    rw [if_neg (by omega)]
    rw [if_neg (by omega)]
    rw [if_neg (by omega)]
    rw [show (i - 423) / 26 = j by omega, show (i - 423) % 26 = i - (423 + 26 * j) by omega]
    show some (cS _ v _) = some (cS _ (if j = j then v else _) _)
    rw [if_pos rfl]
  · rw [hf (b + i) (by omega), h i hi]
    unfold cT
    split
    · rfl
    split
    · rfl
    split
    · rfl
    split
    · rfl
    split
    · rfl
    split
    · rfl
    split
    · rfl
    show some (cS _ _ _) = some (cS _ (if _ = j then v else _) _)
    rw [if_neg (by omega)]
theorem T_put_filled {b : Nat} {x : TT} {G : zG} (h : TA b x G) {v : Nat → Int32} {G1 : zG} (hv : G1 (b + 422) = some (zba 2 v)) (hf : Fr (b + 422) 1 G G1) : TA b (T_set_filled x v) G1 := by
  intro i hi
  by_cases q : i = 422
  · subst q
    exact hv
  · rw [hf (b + i) (by omega), h i hi]
    unfold cT
    split
    · rfl
    split
    · rfl
    split
    · rfl
    split
    · rfl
    split
    · rfl
    split
    · rfl
    have hc : ¬ i < 423 := by omega
    rw [if_neg hc, if_neg hc]

/-! ### the text: what is understood -/
def sgF (s : Nat → Int) (L p : Int) : Int := if 0 ≤ p ∧ p < L then s p.toNat else -1
/-- a digit, a sign, two digits, four digits: value, good, place behind -/
def sD (cs : Int → Int) (lo hi : Int) (st : Int × Int) : Int × Int × Int := if st.1 = 1 ∧ lo ≤ cs st.2 - 48 ∧ cs st.2 - 48 ≤ hi then (cs st.2 - 48, 1, st.2 + 1) else (lo, 0, st.2)
def sS (cs : Int → Int) (st : Int × Int) : Int × Int × Int := if st.1 = 1 ∧ (cs st.2 = 43 ∨ cs st.2 = 45) then (if cs st.2 = 43 then 1 else 0, 1, st.2 + 1) else (if cs st.2 = 43 then 1 else 0, 0, st.2)
def sT2 (cs : Int → Int) (lo hi : Int) (a : Int × Int × Int) : Int × Int × Int := sD cs (if a.1 = lo / 10 then lo % 10 else 0) (if a.1 = hi / 10 then hi % 10 else 9) a.2
def sT (cs : Int → Int) (lo hi : Int) (st : Int × Int) : Int × Int × Int := (10 * (sD cs (lo / 10) (hi / 10) st).1 + (sT2 cs lo hi (sD cs (lo / 10) (hi / 10) st)).1, (sT2 cs lo hi (sD cs (lo / 10) (hi / 10) st)).2)
def sK (cs : Int → Int) (m : Int) : Nat → Int → Int × Int → Int × Int × Int
  | 0, v, st => (v, st)
  | n + 1, v, st => sK cs m n (10 * v + (sD cs 0 m st).1) (sD cs 0 m st).2
def sF3 (cs : Int → Int) (a : Int × Int × Int) : Int × Int × Int := sK cs (if a.1 = 4 then 0 else 9) 3 a.1 a.2
def sF (cs : Int → Int) (st : Int × Int) : Int × Int × Int := sF3 cs (sD cs 0 4 st)
def pA (cs : Int → Int) (st : Int × Int) : Nat → Int × Int × Int × Int × Int
  | 0 => ((sD cs 0 7 st).1, (sT cs 0 99 (sD cs 0 7 st).2).1, (sT cs 1 40 (sT cs 0 99 (sD cs 0 7 st).2).2).1, (sT cs 1 40 (sT cs 0 99 (sD cs 0 7 st).2).2).2)
  | 1 => ((sD cs 0 7 st).1, (sD cs 0 2 (sD cs 0 7 st).2).1, (sS cs (sD cs 0 2 (sD cs 0 7 st).2).2).1, (sS cs (sD cs 0 2 (sD cs 0 7 st).2).2).2)
  | 2 => ((sD cs 0 7 st).1, (sT cs 1 50 (sD cs 0 7 st).2).1, 0, (sT cs 1 50 (sD cs 0 7 st).2).2)
  | 3 => ((sD cs 0 7 st).1, 0, 0, (sD cs 0 7 st).2)
  | 4 => ((sD cs 0 7 st).1, (sS cs (sD cs 0 7 st).2).1, 0, (sS cs (sD cs 0 7 st).2).2)
  | 5 => ((sD cs 0 5 st).1, (sF cs (sD cs 0 5 st).2).1, 0, (sF cs (sD cs 0 5 st).2).2)
  | _ => ((sT cs 1 99 st).1, 0, 0, (sT cs 1 99 st).2)
def aOf (c : Int) : Int := if c = 119 then 0 else if c = 106 then 1 else if c = 114 then 2 else if c = 108 then 3 else if c = 104 then 4 else if c = 115 then 5 else if c = 116 then 6 else -1
/-- a command: its three numbers, good, the place behind -/
def prs (cs : Int → Int) (p : Int) : Int × Int × Int × Int × Int := if aOf (cs p) = -1 then (0, 0, 0, 0, p) else pA cs (1, p + 1) (aOf (cs p)).toNat
def gd (st : Int × Int) : Prop := (st.1 = 0 ∨ st.1 = 1) ∧ 0 ≤ st.2 ∧ st.2 ≤ 120
def csOK (cs : Int → Int) (L : Int) : Prop := (0 ≤ L ∧ L ≤ 120) ∧ (∀ p : Int, ¬ (0 ≤ p ∧ p < L) → cs p = -1) ∧ ∀ p : Int, -1 ≤ cs p ∧ cs p ≤ 255
section QS
variable {cs : Int → Int} {L lo hi : Int} {st : Int × Int}
theorem sD_ok {p : Int} (h : lo ≤ cs p - 48 ∧ cs p - 48 ≤ hi) : sD cs lo hi (1, p) = (cs p - 48, 1, p + 1) := if_pos ⟨rfl, h⟩
theorem sD_no {g p : Int} (h : ¬ (lo ≤ cs p - 48 ∧ cs p - 48 ≤ hi)) : sD cs lo hi (g, p) = (lo, 0, p) := if_neg (fun z => h z.2)
theorem sD_0 {p : Int} : sD cs lo hi (0, p) = (lo, 0, p) := if_neg (fun z => absurd (show (0 : Int) = 1 from z.1) (by decide))
theorem csOK.at (h : csOK cs L) {p : Int} (hp : cs p ≠ -1) : 0 ≤ p ∧ p < L := by
  by_cases q : 0 ≤ p ∧ p < L
  · exact q
  · exact absurd (h.2.1 p q) hp
theorem sD_gd (h : csOK cs L) (h0 : 0 ≤ lo) (hg : gd st) : gd (sD cs lo hi st).2 ∧ ((sD cs lo hi st).2.1 = 1 → st.1 = 1 ∧ (sD cs lo hi st).2.2 = st.2 + 1) := by
  obtain ⟨g, p⟩ := st
  by_cases q : g = 1 ∧ lo ≤ cs p - 48 ∧ cs p - 48 ≤ hi
  · have e : sD cs lo hi (g, p) = (cs p - 48, 1, p + 1) := if_pos q
    have hp := h.at (p := p) (by omega)
    have hL := h.1
    rw [e]
    exact ⟨⟨Or.inr rfl, by show 0 ≤ p + 1; omega, by show p + 1 ≤ 120; omega⟩, fun _ => ⟨q.1, rfl⟩⟩
  · have e : sD cs lo hi (g, p) = (lo, 0, p) := if_neg q
    rw [e]
    exact ⟨⟨Or.inl rfl, hg.2⟩, fun z => absurd (show (0 : Int) = 1 from z) (by decide)⟩
theorem sD_in (h : lo ≤ hi) : lo ≤ (sD cs lo hi st).1 ∧ (sD cs lo hi st).1 ≤ hi := by
  unfold sD
  split
  · rename_i c
    exact c.2
  · exact ⟨Int.le_refl _, h⟩
theorem sS_gd (h : csOK cs L) (hg : gd st) : gd (sS cs st).2 ∧ ((sS cs st).2.1 = 1 → st.1 = 1 ∧ (sS cs st).2.2 = st.2 + 1) := by
  obtain ⟨g, p⟩ := st
  by_cases q : g = 1 ∧ (cs p = 43 ∨ cs p = 45)
  · have e : sS cs (g, p) = (if cs p = 43 then 1 else 0, 1, p + 1) := if_pos q
    have hp := h.at (p := p) (by omega)
    have hL := h.1
    rw [e]
    exact ⟨⟨Or.inr rfl, by show 0 ≤ p + 1; omega, by show p + 1 ≤ 120; omega⟩, fun _ => ⟨q.1, rfl⟩⟩
  · have e : sS cs (g, p) = (if cs p = 43 then 1 else 0, 0, p) := if_neg q
    rw [e]
    exact ⟨⟨Or.inl rfl, hg.2⟩, fun z => absurd (show (0 : Int) = 1 from z) (by decide)⟩
theorem sS_in : (sS cs st).1 = 0 ∨ (sS cs st).1 = 1 := by
  have e : (sS cs st).1 = if cs st.2 = 43 then 1 else 0 := by
    unfold sS
    split <;> rfl
  rw [e]
  split
  · exact Or.inr rfl
  · exact Or.inl rfl
theorem sT_gd (h : csOK cs L) (h0 : 0 ≤ lo) (hg : gd st) : gd (sT cs lo hi st).2 ∧ ((sT cs lo hi st).2.1 = 1 → st.1 = 1 ∧ (sT cs lo hi st).2.2 = st.2 + 2) := by
  have a := sD_gd (lo := lo / 10) (hi := hi / 10) h (by omega) hg
  have b := sD_gd (lo := if (sD cs (lo / 10) (hi / 10) st).1 = lo / 10 then lo % 10 else 0) (hi := if (sD cs (lo / 10) (hi / 10) st).1 = hi / 10 then hi % 10 else 9) h (by split <;> omega) a.1
  refine ⟨b.1, fun z => ?_⟩
  have b2 := b.2 z
  have a2 := a.2 b2.1
  refine ⟨a2.1, ?_⟩
  show (sT2 cs lo hi (sD cs (lo / 10) (hi / 10) st)).2.2 = _
  have e : (sT2 cs lo hi (sD cs (lo / 10) (hi / 10) st)).2.2 = (sD cs (lo / 10) (hi / 10) st).2.2 + 1 := b2.2
  rw [e, a2.2]
  omega
theorem sT_in (h0 : 0 ≤ lo) (h1 : lo ≤ hi) (h2 : hi ≤ 99) : lo ≤ (sT cs lo hi st).1 ∧ (sT cs lo hi st).1 ≤ hi := by
  have a := sD_in (cs := cs) (st := st) (lo := lo / 10) (hi := hi / 10) (by omega)
  show lo ≤ 10 * (sD cs (lo / 10) (hi / 10) st).1 + (sT2 cs lo hi (sD cs (lo / 10) (hi / 10) st)).1 ∧ 10 * (sD cs (lo / 10) (hi / 10) st).1 + (sT2 cs lo hi (sD cs (lo / 10) (hi / 10) st)).1 ≤ hi
  unfold sT2
  generalize (sD cs (lo / 10) (hi / 10) st) = x at a ⊢
  by_cases q1 : x.1 = lo / 10
  · by_cases q2 : x.1 = hi / 10
    · rw [if_pos q1, if_pos q2]
      have b := sD_in (cs := cs) (st := x.2) (lo := lo % 10) (hi := hi % 10) (by omega)
      omega
    · rw [if_pos q1, if_neg q2]
      have b := sD_in (cs := cs) (st := x.2) (lo := lo % 10) (hi := 9) (by omega)
      omega
  · by_cases q2 : x.1 = hi / 10
    · rw [if_neg q1, if_pos q2]
      have b := sD_in (cs := cs) (st := x.2) (lo := 0) (hi := hi % 10) (by omega)
      omega
    · rw [if_neg q1, if_neg q2]
      have b := sD_in (cs := cs) (st := x.2) (lo := 0) (hi := 9) (by omega)
      omega
theorem sK_gd {m : Int} (h : csOK cs L) : ∀ (n : Nat) (v : Int) (st : Int × Int), gd st → gd (sK cs m n v st).2 ∧ ((sK cs m n v st).2.1 = 1 → st.1 = 1 ∧ (sK cs m n v st).2.2 = st.2 + n)
  | 0, v, st, hg => ⟨hg, fun z => ⟨z, by show st.2 = st.2 + 0; omega⟩⟩
  | n + 1, v, st, hg => by
    have a := sD_gd (lo := 0) (hi := m) h (by decide) hg
    have b := sK_gd (m := m) h n (10 * v + (sD cs 0 m st).1) (sD cs 0 m st).2 a.1
    refine ⟨b.1, fun z => ?_⟩
    have b2 := b.2 z
    have a2 := a.2 b2.1
    refine ⟨a2.1, ?_⟩
    have e : (sK cs m (n + 1) v st).2.2 = (sD cs 0 m st).2.2 + n := b2.2
    rw [e, a2.2]
    omega
theorem sK_bad {m q : Int} : ∀ (n : Nat) (v : Int), (sK cs m n v (0, q)).2 = (0, q)
  | 0, v => rfl
  | n + 1, v => by
    show (sK cs m n (10 * v + (sD cs 0 m (0, q)).1) (sD cs 0 m (0, q)).2).2 = (0, q)
    rw [sD_0]
    exact sK_bad n _
theorem sF_gd (h : csOK cs L) (hg : gd st) : gd (sF cs st).2 ∧ ((sF cs st).2.1 = 1 → st.1 = 1 ∧ (sF cs st).2.2 = st.2 + 4) := by
  have a := sD_gd (lo := 0) (hi := 4) h (by decide) hg
  have b := sK_gd (m := if (sD cs 0 4 st).1 = 4 then 0 else 9) h 3 (sD cs 0 4 st).1 (sD cs 0 4 st).2 a.1
  refine ⟨b.1, fun z => ?_⟩
  have b2 := b.2 z
  have a2 := a.2 b2.1
  refine ⟨a2.1, ?_⟩
  have e : (sF cs st).2.2 = (sD cs 0 4 st).2.2 + 3 := b2.2
  rw [e, a2.2]
  omega
theorem sK3_in {m v : Int} (hm : 0 ≤ m) : 1000 * v ≤ (sK cs m 3 v st).1 ∧ (sK cs m 3 v st).1 ≤ 1000 * v + 111 * m := by
  have b := sD_in (cs := cs) (lo := 0) (hi := m) (st := st) hm
  have c := sD_in (cs := cs) (lo := 0) (hi := m) (st := (sD cs 0 m st).2) hm
  have d := sD_in (cs := cs) (lo := 0) (hi := m) (st := (sD cs 0 m (sD cs 0 m st).2).2) hm
  show 1000 * v ≤ 10 * (10 * (10 * v + (sD cs 0 m st).1) + (sD cs 0 m (sD cs 0 m st).2).1) + (sD cs 0 m (sD cs 0 m (sD cs 0 m st).2).2).1 ∧ 10 * (10 * (10 * v + (sD cs 0 m st).1) + (sD cs 0 m (sD cs 0 m st).2).1) + (sD cs 0 m (sD cs 0 m (sD cs 0 m st).2).2).1 ≤ 1000 * v + 111 * m
  omega
theorem sF_in : 0 ≤ (sF cs st).1 ∧ (sF cs st).1 ≤ 4000 := by
  have a := sD_in (cs := cs) (st := st) (lo := 0) (hi := 4) (by decide)
  unfold sF sF3
  by_cases q : (sD cs 0 4 st).1 = 4
  · rw [if_pos q]
    have b := sK3_in (cs := cs) (m := 0) (v := (sD cs 0 4 st).1) (st := (sD cs 0 4 st).2) (by decide)
    omega
  · rw [if_neg q]
    have b := sK3_in (cs := cs) (m := 9) (v := (sD cs 0 4 st).1) (st := (sD cs 0 4 st).2) (by decide)
    omega
theorem prs_gd (h : csOK cs L) {p : Int} (h0 : 0 ≤ p) (h1 : p < L) : gd (prs cs p).2.2.2 ∧ ((prs cs p).2.2.2.1 = 1 → aOf (cs p) ≠ -1 ∧ p + 2 ≤ (prs cs p).2.2.2.2) := by
  have hL := h.1
  have g0 : gd ((1 : Int), p + 1) := ⟨Or.inr rfl, by show 0 ≤ p + 1; omega, by show p + 1 ≤ 120; omega⟩
  by_cases q : aOf (cs p) = -1
  · have e : prs cs p = (0, 0, 0, 0, p) := if_pos q
    rw [e]
    exact ⟨⟨Or.inl rfl, h0, by show p ≤ 120; omega⟩, fun z => absurd (show (0 : Int) = 1 from z) (by decide)⟩
  · have e : prs cs p = pA cs (1, p + 1) (aOf (cs p)).toNat := if_neg q
    rw [e]
    have d7 := sD_gd (lo := 0) (hi := 7) h (by decide) g0
    generalize (aOf (cs p)).toNat = n
    match n with
    | 0 =>
      have b := sT_gd (lo := 0) (hi := 99) h (by decide) d7.1
      have c := sT_gd (lo := 1) (hi := 40) h (by decide) b.1
      refine ⟨c.1, fun z => ⟨q, ?_⟩⟩
      have c2 := c.2 z
      have b2 := b.2 c2.1
      have a2 := (d7.2 b2.1).2
      have e2 : (pA cs (1, p + 1) 0).2.2.2.2 = (sT cs 0 99 (sD cs 0 7 (1, p + 1)).2).2.2 + 2 := c2.2
      have a3 : (sD cs 0 7 (1, p + 1)).2.2 = p + 1 + 1 := a2
      rw [e2, b2.2, a3]
      omega
    | 1 =>
      have b := sD_gd (lo := 0) (hi := 2) h (by decide) d7.1
      have c := sS_gd h b.1
      refine ⟨c.1, fun z => ⟨q, ?_⟩⟩
      have c2 := c.2 z
      have b2 := b.2 c2.1
      have a3 : (sD cs 0 7 (1, p + 1)).2.2 = p + 1 + 1 := (d7.2 b2.1).2
      have e2 : (pA cs (1, p + 1) 1).2.2.2.2 = (sD cs 0 2 (sD cs 0 7 (1, p + 1)).2).2.2 + 1 := c2.2
      rw [e2, b2.2, a3]
      omega
    | 2 =>
      have b := sT_gd (lo := 1) (hi := 50) h (by decide) d7.1
      refine ⟨b.1, fun z => ⟨q, ?_⟩⟩
      have b2 := b.2 z
      have a3 : (sD cs 0 7 (1, p + 1)).2.2 = p + 1 + 1 := (d7.2 b2.1).2
      have e2 : (pA cs (1, p + 1) 2).2.2.2.2 = (sD cs 0 7 (1, p + 1)).2.2 + 2 := b2.2
      rw [e2, a3]
      omega
    | 3 =>
      refine ⟨d7.1, fun z => ⟨q, ?_⟩⟩
      have e2 : (pA cs (1, p + 1) 3).2.2.2.2 = p + 1 + 1 := (d7.2 z).2
      rw [e2]
      omega
    | 4 =>
      have c := sS_gd h d7.1
      refine ⟨c.1, fun z => ⟨q, ?_⟩⟩
      have c2 := c.2 z
      have a3 : (sD cs 0 7 (1, p + 1)).2.2 = p + 1 + 1 := (d7.2 c2.1).2
      have e2 : (pA cs (1, p + 1) 4).2.2.2.2 = (sD cs 0 7 (1, p + 1)).2.2 + 1 := c2.2
      rw [e2, a3]
      omega
    | 5 =>
      have d5 := sD_gd (lo := 0) (hi := 5) h (by decide) g0
      have c := sF_gd h d5.1
      refine ⟨c.1, fun z => ⟨q, ?_⟩⟩
      have c2 := c.2 z
      have a3 : (sD cs 0 5 (1, p + 1)).2.2 = p + 1 + 1 := (d5.2 c2.1).2
      have e2 : (pA cs (1, p + 1) 5).2.2.2.2 = (sD cs 0 5 (1, p + 1)).2.2 + 4 := c2.2
      rw [e2, a3]
      omega
    | n + 6 =>
      have b := sT_gd (lo := 1) (hi := 99) h (by decide) g0
      refine ⟨b.1, fun z => ⟨q, ?_⟩⟩
      have e2 : (pA cs (1, p + 1) (n + 6)).2.2.2.2 = p + 1 + 2 := (b.2 z).2
      rw [e2]
      omega
end QS
/-! ### the text of the class -/
abbrev xS (x : XZ) (p wr ac a b c : Int) : XZ := (Xz_signs x, Xz_length x, p, wr, ac, a, b, c)
def XOK (x : XZ) (cs : Int → Int) : Prop := csOK cs (Xz_length x) ∧ ∀ p : Int, 0 ≤ p → p < Xz_length x → cs p = Xz_signs x p.toNat ∧ 0 ≤ cs p
section QT
variable {cs : Int → Int} {x : XZ} {lo hi p g ac a b c : Int}
theorem q_sign {wr : Int} {Q : Int → Prop} (hx : XOK x cs) (h0 : 0 ≤ p) (k : ∀ r : Int, (0 ≤ p ∧ p < Xz_length x → r = cs p) → (¬ (0 ≤ p ∧ p < Xz_length x) → r = 0) → Q r) : Z_X_sign (xS x p wr ac a b c) Q := by
  have hL := hx.1.1
  refine ⟨fun z => absurd (show p < 0 from z) (by omega), fun _ => ⟨fun z => ?_, fun z => ⟨fun z2 => absurd (show 120 ≤ p from z2) ?_, fun z2 => ⟨?_, ?_, ?_⟩⟩⟩⟩
  · have z : Xz_length x ≤ p := z
    exact k 0 (fun y => by omega) (fun _ => rfl)
  · have z : ¬ Xz_length x ≤ p := z
    omega
  · have z2 : ¬ 120 ≤ p := z2
    show 0 ≤ p ∧ p < 120
    omega
  · have z : ¬ Xz_length x ≤ p := z
    have y := hx.2 p h0 (by omega)
    have y2 := hx.1.2.2 p
    show 0 ≤ Xz_signs x p.toNat ∧ Xz_signs x p.toNat ≤ 65535
    omega
  · have z : ¬ Xz_length x ≤ p := z
    exact k _ (fun y => (hx.2 p h0 y.2).1.symm) (fun y => absurd ⟨h0, by omega⟩ y)
theorem q_dgFail {f : Nat} {x1 x2 x3 cnt n sp i wr : Int} {Q : Int → XZ → Prop} (hw : ¬ wr = 0) (k : Q n (xS x p wr ac a b c)) : ZL_X_digits_31 (f + 1) x1 x2 x3 cnt lo hi n sp i (xS x p wr ac a b c) Q := by
  rw [ZL_X_digits_31]
  exact ⟨fun _ => k, fun _ => ⟨fun _ => k, fun z => absurd (show wr = 0 from z) hw⟩⟩
theorem q_dg {f : Nat} {x1 x2 x3 cnt n sp5 sp i : Int} {Q : Int → XZ → Prop} (hx : XOK x cs) (hsp : Int.tdiv sp5 10 = sp) (hi1 : i < cnt) (hi0 : 0 ≤ i ∧ i ≤ 10) (h0 : 0 ≤ p ∧ p ≤ 120)
    (hz : ∀ d : Int, 0 ≤ d → d ≤ 9 → zin (n * 10) ∧ zin (n * 10 + d) ∧ zin ((n * 10 + d) * sp) ∧ zin ((n * 10 + d) * sp + sp) ∧ zin ((n * 10 + d) * sp + sp - 1))
    (kok : 0 ≤ cs p - 48 → cs p - 48 ≤ 9 → (n * 10 + (cs p - 48)) * sp ≤ hi → lo ≤ (n * 10 + (cs p - 48)) * sp + sp - 1 → ZL_X_digits_31 (f + 1) x1 x2 x3 cnt lo hi (n * 10 + (cs p - 48)) sp (i + 1) (xS x (p + 1) 0 ac a b c) Q)
    (kno : ¬ (0 ≤ cs p - 48 ∧ cs p - 48 ≤ 9 ∧ (n * 10 + (cs p - 48)) * sp ≤ hi ∧ lo ≤ (n * 10 + (cs p - 48)) * sp + sp - 1) → Q n (xS x p 1 ac a b c)) :
    ZL_X_digits_31 (f + 1 + 1) x1 x2 x3 cnt lo hi n sp5 i (xS x p 0 ac a b c) Q := by
  rw [ZL_X_digits_31]
  rw [hsp]
  refine ⟨fun z => absurd z (by omega), fun _ => ⟨fun z => absurd rfl z, fun _ => q_sign hx h0.1 (fun r r1 r2 => ⟨fun z => ?_, fun z => ⟨fun z2 => ?_, fun z2 => ?_⟩⟩)⟩⟩
  · rintro _ rfl
    refine ⟨by omega, q_dgFail (p := p) (by decide) (kno (fun y => ?_))⟩
    by_cases q : 0 ≤ p ∧ p < Xz_length x
    · have := r1 q
      omega
    · have := hx.1.2.1 p q
      omega
  · rintro _ rfl
    refine ⟨by omega, q_dgFail (p := p) (by decide) (kno (fun y => ?_))⟩
    by_cases q : 0 ≤ p ∧ p < Xz_length x
    · have := r1 q
      omega
    · have := hx.1.2.1 p q
      omega
  · have q : 0 ≤ p ∧ p < Xz_length x := by
      by_cases q : 0 ≤ p ∧ p < Xz_length x
      · exact q
      · have := r2 q
        omega
    have e := r1 q
    subst e
    obtain ⟨b1, b2, b3, b4, b5⟩ := hz (cs p - 48) (by omega) (by omega)
    refine ⟨b1, by omega, b2, b3, fun z3 => ?_, fun z3 => ⟨b4, b5, fun z4 => ⟨by show -2147483648 ≤ p + 1 ∧ p + 1 < 2147483648; omega, ?_⟩, fun z4 => ?_⟩⟩
    · rintro _ rfl
      exact ⟨by omega, q_dgFail (p := p) (by decide) (kno (fun y => by omega))⟩
    · rintro _ rfl
      exact ⟨by omega, kok (by omega) (by omega) (by omega) z4⟩
    · rintro _ rfl
      exact ⟨by omega, q_dgFail (p := p) (by decide) (kno (fun y => z4 y.2.2.2))⟩
theorem dg_in1 {v : XZ} {Q : Int → XZ → Prop} (n : Nat) (k : ZL_X_digits_31 n 1 lo hi 1 lo hi 0 (1 * 10) 0 v Q) : Z_X_digits 1 lo hi v Q := by
  refine ⟨2, ?_⟩
  rw [ZL_X_digits_9]
  refine ⟨fun z => absurd z (by decide), fun _ => ⟨by decide, by decide, ?_⟩⟩
  rw [ZL_X_digits_9]
  exact ⟨fun _ => ⟨n, k⟩, fun z => absurd (show (1 : Int) ≤ 0 + 1 by decide) z⟩
theorem dg_in2 {v : XZ} {Q : Int → XZ → Prop} (n : Nat) (k : ZL_X_digits_31 n 2 lo hi 2 lo hi 0 (1 * 10 * 10) 0 v Q) : Z_X_digits 2 lo hi v Q := by
  refine ⟨3, ?_⟩
  rw [ZL_X_digits_9]
  refine ⟨fun z => absurd z (by decide), fun _ => ⟨by decide, by decide, ?_⟩⟩
  rw [ZL_X_digits_9]
  refine ⟨fun z => absurd z (by decide), fun _ => ⟨by decide, by decide, ?_⟩⟩
  rw [ZL_X_digits_9]
  exact ⟨fun _ => ⟨n, k⟩, fun z => absurd (show (2 : Int) ≤ 0 + 1 + 1 by decide) z⟩
theorem dg_in4 {v : XZ} {Q : Int → XZ → Prop} (n : Nat) (k : ZL_X_digits_31 n 4 lo hi 4 lo hi 0 (1 * 10 * 10 * 10 * 10) 0 v Q) : Z_X_digits 4 lo hi v Q := by
  refine ⟨5, ?_⟩
  rw [ZL_X_digits_9]
  refine ⟨fun z => absurd z (by decide), fun _ => ⟨by decide, by decide, ?_⟩⟩
  rw [ZL_X_digits_9]
  refine ⟨fun z => absurd z (by decide), fun _ => ⟨by decide, by decide, ?_⟩⟩
  rw [ZL_X_digits_9]
  refine ⟨fun z => absurd z (by decide), fun _ => ⟨by decide, by decide, ?_⟩⟩
  rw [ZL_X_digits_9]
  refine ⟨fun z => absurd z (by decide), fun _ => ⟨by decide, by decide, ?_⟩⟩
  rw [ZL_X_digits_9]
  exact ⟨fun _ => ⟨n, k⟩, fun z => absurd (show (4 : Int) ≤ 0 + 1 + 1 + 1 + 1 by decide) z⟩
/-- the end of the digits -/
theorem q_dgEnd {f : Nat} {x1 x2 x3 cnt n sp i wr : Int} {Q : Int → XZ → Prop} (hi1 : cnt ≤ i) (k : Q n (xS x p wr ac a b c)) : ZL_X_digits_31 (f + 1) x1 x2 x3 cnt lo hi n sp i (xS x p wr ac a b c) Q := by
  rw [ZL_X_digits_31]
  exact ⟨fun _ => k, fun z => absurd hi1 z⟩
theorem q_digit1 {Q : Int → XZ → Prop} (hx : XOK x cs) (hg : gd (g, p)) (hl : 0 ≤ lo ∧ hi ≤ 9) (k : ∀ r : Int, ((sD cs lo hi (g, p)).2.1 = 1 → r = (sD cs lo hi (g, p)).1) → Q r (xS x (sD cs lo hi (g, p)).2.2 (1 - (sD cs lo hi (g, p)).2.1) ac a b c)) : Z_X_digits 1 lo hi (xS x p (1 - g) ac a b c) Q := by
  obtain ⟨g1, g2, g3⟩ := hg
  rcases g1 with z | z
  · have z : g = 0 := z
    subst z
    rw [sD_0] at k
    exact dg_in1 1 (q_dgFail (by decide) (k 0 (fun z => absurd (show (0 : Int) = 1 from z) (by decide))))
  · have z : g = 1 := z
    subst z
    refine dg_in1 2 (q_dg (f := 0) (n := 0) (i := 0) (sp := 1) (p := p) hx (by decide) (by decide) (by decide) ⟨g2, g3⟩ (fun d d0 d9 => by omega) (fun d0 d9 d1 d2 => ?_) (fun no => ?_))
    · rw [sD_ok (by omega)] at k
      exact q_dgEnd (by decide) (k (0 * 10 + (cs p - 48)) (fun _ => by show 0 * 10 + (cs p - 48) = cs p - 48; omega))
    · rw [sD_no (by omega)] at k
      exact k 0 (fun z => absurd (show (0 : Int) = 1 from z) (by decide))
theorem q_digit2 {Q : Int → XZ → Prop} (hx : XOK x cs) (hg : gd (g, p)) (hl : 0 ≤ lo ∧ lo ≤ hi ∧ hi ≤ 99) (k : ∀ r : Int, ((sT cs lo hi (g, p)).2.1 = 1 → r = (sT cs lo hi (g, p)).1) → Q r (xS x (sT cs lo hi (g, p)).2.2 (1 - (sT cs lo hi (g, p)).2.1) ac a b c)) : Z_X_digits 2 lo hi (xS x p (1 - g) ac a b c) Q := by
  obtain ⟨g1, g2, g3⟩ := hg
  have bad : ∀ q : Int, (sD cs (lo / 10) (hi / 10) (g, p)) = (lo / 10, 0, q) → ∀ n : Int, Q n (xS x q 1 ac a b c) := by
    intro q e n
    unfold sT at k
    rw [e] at k
    have e2 : sT2 cs lo hi (lo / 10, 0, q) = (if (lo / 10 : Int) = lo / 10 then lo % 10 else 0, 0, q) := by
      unfold sT2
      exact sD_0
    rw [e2] at k
    exact k n (fun z => absurd (show (0 : Int) = 1 from z) (by decide))
  rcases g1 with z | z
  · have z : g = 0 := z
    subst z
    exact dg_in2 1 (q_dgFail (by decide) (bad p sD_0 0))
  · have z : g = 1 := z
    subst z
    refine dg_in2 3 (q_dg (f := 1) (n := 0) (i := 0) (sp := 10) (p := p) hx (by decide) (by decide) (by decide) ⟨g2, g3⟩ (fun d d0 d9 => by omega) (fun d0 d9 d1 d2 => ?_) (fun no => ?_))
    · have e : sD cs (lo / 10) (hi / 10) (1, p) = (cs p - 48, 1, p + 1) := sD_ok (by omega)
      unfold sT at k
      rw [e] at k
      have hp := hx.1.at (p := p) (by omega)
      have hL := hx.1.1
      refine q_dg (f := 0) (n := 0 * 10 + (cs p - 48)) (i := 0 + 1) (sp := 1) (p := p + 1) hx (by decide) (by decide) (by decide) ⟨by omega, by omega⟩ (fun d e0 e9 => by omega) (fun e0 e9 e1 e2 => ?_) (fun no => ?_)
      · have f : sT2 cs lo hi (cs p - 48, 1, p + 1) = (cs (p + 1) - 48, 1, p + 1 + 1) := by
          refine sD_ok ⟨?_, ?_⟩
          · show (if cs p - 48 = lo / 10 then lo % 10 else 0) ≤ _
            split <;> omega
          · show _ ≤ (if cs p - 48 = hi / 10 then hi % 10 else 9)
            split <;> omega
        rw [f] at k
        exact q_dgEnd (by decide) (k _ (fun _ => by show (0 * 10 + (cs p - 48)) * 10 + (cs (p + 1) - 48) = 10 * (cs p - 48) + (cs (p + 1) - 48); omega))
      · have f : sT2 cs lo hi (cs p - 48, 1, p + 1) = (if cs p - 48 = lo / 10 then lo % 10 else 0, 0, p + 1) := by
          refine sD_no (fun y => no ?_)
          obtain ⟨y1, y2⟩ := y
          have y1 : (if cs p - 48 = lo / 10 then lo % 10 else 0) ≤ cs (p + 1) - 48 := y1
          have y2 : cs (p + 1) - 48 ≤ (if cs p - 48 = hi / 10 then hi % 10 else 9) := y2
          split at y1 <;> split at y2 <;> omega
        rw [f] at k
        exact k _ (fun z => absurd (show (0 : Int) = 1 from z) (by decide))
    · exact bad p (sD_no (by omega)) 0
theorem q_dgK0 {m n : Int} {Q : Int → XZ → Prop} (hx : XOK x cs) (h0 : 0 ≤ p ∧ p ≤ 120) (hn : (m = 0 ∧ n * 1 = 4000) ∨ (m = 9 ∧ 0 ≤ n ∧ n * 1 + 1 ≤ 4000)) (k : ∀ r : Int, ((sK cs m 0 n (1, p)).2.1 = 1 → r = (sK cs m 0 n (1, p)).1) → Q r (xS x (sK cs m 0 n (1, p)).2.2 (1 - (sK cs m 0 n (1, p)).2.1) ac a b c)) : ZL_X_digits_31 (0 + 1) 4 0 4000 4 0 4000 n 1 (0 + 1 + 1 + 1 + 1) (xS x p 0 ac a b c) Q := by
  exact q_dgEnd (by decide) (k n (fun _ => rfl))
theorem q_dgK1 {m n : Int} {Q : Int → XZ → Prop} (hx : XOK x cs) (h0 : 0 ≤ p ∧ p ≤ 120) (hn : (m = 0 ∧ n * 10 = 4000) ∨ (m = 9 ∧ 0 ≤ n ∧ n * 10 + 10 ≤ 4000)) (k : ∀ r : Int, ((sK cs m 1 n (1, p)).2.1 = 1 → r = (sK cs m 1 n (1, p)).1) → Q r (xS x (sK cs m 1 n (1, p)).2.2 (1 - (sK cs m 1 n (1, p)).2.1) ac a b c)) : ZL_X_digits_31 (1 + 1) 4 0 4000 4 0 4000 n 10 (0 + 1 + 1 + 1) (xS x p 0 ac a b c) Q := by
  refine q_dg (f := 0) (sp := 1) hx (by decide) (by decide) (by decide) h0 (fun d d0 d9 => by omega) (fun d0 d9 d1 d2 => ?_) (fun no => ?_)
  · have e : sD cs 0 m (1, p) = (cs p - 48, 1, p + 1) := sD_ok (by omega)
    have k : ∀ r : Int, ((sK cs m 0 (10 * n + (sD cs 0 m (1, p)).1) (sD cs 0 m (1, p)).2).2.1 = 1 → r = (sK cs m 0 (10 * n + (sD cs 0 m (1, p)).1) (sD cs 0 m (1, p)).2).1) → Q r (xS x (sK cs m 0 (10 * n + (sD cs 0 m (1, p)).1) (sD cs 0 m (1, p)).2).2.2 (1 - (sK cs m 0 (10 * n + (sD cs 0 m (1, p)).1) (sD cs 0 m (1, p)).2).2.1) ac a b c) := k
    rw [e] at k
    have k : ∀ r : Int, ((sK cs m 0 (10 * n + (cs p - 48)) (1, p + 1)).2.1 = 1 → r = (sK cs m 0 (10 * n + (cs p - 48)) (1, p + 1)).1) → Q r (xS x (sK cs m 0 (10 * n + (cs p - 48)) (1, p + 1)).2.2 (1 - (sK cs m 0 (10 * n + (cs p - 48)) (1, p + 1)).2.1) ac a b c) := k
    rw [show 10 * n + (cs p - 48) = n * 10 + (cs p - 48) by omega] at k
    have hp := hx.1.at (p := p) (by omega)
    have hL := hx.1.1
    exact q_dgK0 (m := m) hx ⟨by omega, by omega⟩ (by omega) k
  · have e : sD cs 0 m (1, p) = (0, 0, p) := sD_no (by omega)
    have e2 : (sK cs m 1 n (1, p)).2 = (0, p) := by
      show (sK cs m 0 (10 * n + (sD cs 0 m (1, p)).1) (sD cs 0 m (1, p)).2).2 = (0, p)
      rw [e]
      exact sK_bad 0 _
    rw [e2] at k
    exact k n (fun z => absurd (show (0 : Int) = 1 from z) (by decide))
theorem q_dgK2 {m n : Int} {Q : Int → XZ → Prop} (hx : XOK x cs) (h0 : 0 ≤ p ∧ p ≤ 120) (hn : (m = 0 ∧ n * 100 = 4000) ∨ (m = 9 ∧ 0 ≤ n ∧ n * 100 + 100 ≤ 4000)) (k : ∀ r : Int, ((sK cs m 2 n (1, p)).2.1 = 1 → r = (sK cs m 2 n (1, p)).1) → Q r (xS x (sK cs m 2 n (1, p)).2.2 (1 - (sK cs m 2 n (1, p)).2.1) ac a b c)) : ZL_X_digits_31 (2 + 1) 4 0 4000 4 0 4000 n 100 (0 + 1 + 1) (xS x p 0 ac a b c) Q := by
  refine q_dg (f := 1) (sp := 10) hx (by decide) (by decide) (by decide) h0 (fun d d0 d9 => by omega) (fun d0 d9 d1 d2 => ?_) (fun no => ?_)
  · have e : sD cs 0 m (1, p) = (cs p - 48, 1, p + 1) := sD_ok (by omega)
    have k : ∀ r : Int, ((sK cs m 1 (10 * n + (sD cs 0 m (1, p)).1) (sD cs 0 m (1, p)).2).2.1 = 1 → r = (sK cs m 1 (10 * n + (sD cs 0 m (1, p)).1) (sD cs 0 m (1, p)).2).1) → Q r (xS x (sK cs m 1 (10 * n + (sD cs 0 m (1, p)).1) (sD cs 0 m (1, p)).2).2.2 (1 - (sK cs m 1 (10 * n + (sD cs 0 m (1, p)).1) (sD cs 0 m (1, p)).2).2.1) ac a b c) := k
    rw [e] at k
    have k : ∀ r : Int, ((sK cs m 1 (10 * n + (cs p - 48)) (1, p + 1)).2.1 = 1 → r = (sK cs m 1 (10 * n + (cs p - 48)) (1, p + 1)).1) → Q r (xS x (sK cs m 1 (10 * n + (cs p - 48)) (1, p + 1)).2.2 (1 - (sK cs m 1 (10 * n + (cs p - 48)) (1, p + 1)).2.1) ac a b c) := k
    rw [show 10 * n + (cs p - 48) = n * 10 + (cs p - 48) by omega] at k
    have hp := hx.1.at (p := p) (by omega)
    have hL := hx.1.1
    exact q_dgK1 (m := m) hx ⟨by omega, by omega⟩ (by omega) k
  · have e : sD cs 0 m (1, p) = (0, 0, p) := sD_no (by omega)
    have e2 : (sK cs m 2 n (1, p)).2 = (0, p) := by
      show (sK cs m 1 (10 * n + (sD cs 0 m (1, p)).1) (sD cs 0 m (1, p)).2).2 = (0, p)
      rw [e]
      exact sK_bad 1 _
    rw [e2] at k
    exact k n (fun z => absurd (show (0 : Int) = 1 from z) (by decide))
theorem q_dgK3 {m n : Int} {Q : Int → XZ → Prop} (hx : XOK x cs) (h0 : 0 ≤ p ∧ p ≤ 120) (hn : (m = 0 ∧ n * 1000 = 4000) ∨ (m = 9 ∧ 0 ≤ n ∧ n * 1000 + 1000 ≤ 4000)) (k : ∀ r : Int, ((sK cs m 3 n (1, p)).2.1 = 1 → r = (sK cs m 3 n (1, p)).1) → Q r (xS x (sK cs m 3 n (1, p)).2.2 (1 - (sK cs m 3 n (1, p)).2.1) ac a b c)) : ZL_X_digits_31 (3 + 1) 4 0 4000 4 0 4000 n 1000 (0 + 1) (xS x p 0 ac a b c) Q := by
  refine q_dg (f := 2) (sp := 100) hx (by decide) (by decide) (by decide) h0 (fun d d0 d9 => by omega) (fun d0 d9 d1 d2 => ?_) (fun no => ?_)
  · have e : sD cs 0 m (1, p) = (cs p - 48, 1, p + 1) := sD_ok (by omega)
    have k : ∀ r : Int, ((sK cs m 2 (10 * n + (sD cs 0 m (1, p)).1) (sD cs 0 m (1, p)).2).2.1 = 1 → r = (sK cs m 2 (10 * n + (sD cs 0 m (1, p)).1) (sD cs 0 m (1, p)).2).1) → Q r (xS x (sK cs m 2 (10 * n + (sD cs 0 m (1, p)).1) (sD cs 0 m (1, p)).2).2.2 (1 - (sK cs m 2 (10 * n + (sD cs 0 m (1, p)).1) (sD cs 0 m (1, p)).2).2.1) ac a b c) := k
    rw [e] at k
    have k : ∀ r : Int, ((sK cs m 2 (10 * n + (cs p - 48)) (1, p + 1)).2.1 = 1 → r = (sK cs m 2 (10 * n + (cs p - 48)) (1, p + 1)).1) → Q r (xS x (sK cs m 2 (10 * n + (cs p - 48)) (1, p + 1)).2.2 (1 - (sK cs m 2 (10 * n + (cs p - 48)) (1, p + 1)).2.1) ac a b c) := k
    rw [show 10 * n + (cs p - 48) = n * 10 + (cs p - 48) by omega] at k
    have hp := hx.1.at (p := p) (by omega)
    have hL := hx.1.1
    exact q_dgK2 (m := m) hx ⟨by omega, by omega⟩ (by omega) k
  · have e : sD cs 0 m (1, p) = (0, 0, p) := sD_no (by omega)
    have e2 : (sK cs m 3 n (1, p)).2 = (0, p) := by
      show (sK cs m 2 (10 * n + (sD cs 0 m (1, p)).1) (sD cs 0 m (1, p)).2).2 = (0, p)
      rw [e]
      exact sK_bad 2 _
    rw [e2] at k
    exact k n (fun z => absurd (show (0 : Int) = 1 from z) (by decide))
theorem q_digit4 {Q : Int → XZ → Prop} (hx : XOK x cs) (hg : gd (g, p)) (k : ∀ r : Int, ((sF cs (g, p)).2.1 = 1 → r = (sF cs (g, p)).1) → Q r (xS x (sF cs (g, p)).2.2 (1 - (sF cs (g, p)).2.1) ac a b c)) : Z_X_digits 4 0 4000 (xS x p (1 - g) ac a b c) Q := by
  obtain ⟨g1, g2, g3⟩ := hg
  have bad : ∀ q v : Int, (sD cs 0 4 (g, p)) = (v, 0, q) → ∀ n : Int, Q n (xS x q 1 ac a b c) := by
    intro q v e n
    have e2 : (sF cs (g, p)).2 = (0, q) := by
      unfold sF
      rw [e]
      exact sK_bad 3 _
    rw [e2] at k
    exact k n (fun z => absurd (show (0 : Int) = 1 from z) (by decide))
  rcases g1 with z | z
  · have z : g = 0 := z
    subst z
    exact dg_in4 1 (q_dgFail (by decide) (bad p 0 sD_0 0))
  · have z : g = 1 := z
    subst z
    refine dg_in4 5 (q_dg (f := 3) (n := 0) (i := 0) (sp := 1000) (p := p) hx (by decide) (by decide) (by decide) ⟨g2, g3⟩ (fun d d0 d9 => by omega) (fun d0 d9 d1 d2 => ?_) (fun no => ?_))
    · have e : sD cs 0 4 (1, p) = (cs p - 48, 1, p + 1) := sD_ok (by omega)
      have hp := hx.1.at (p := p) (by omega)
      have hL := hx.1.1
      unfold sF at k
      rw [e] at k
      have k : ∀ r : Int, ((sK cs (if cs p - 48 = 4 then 0 else 9) 3 (cs p - 48) (1, p + 1)).2.1 = 1 → r = (sK cs (if cs p - 48 = 4 then 0 else 9) 3 (cs p - 48) (1, p + 1)).1) → Q r (xS x (sK cs (if cs p - 48 = 4 then 0 else 9) 3 (cs p - 48) (1, p + 1)).2.2 (1 - (sK cs (if cs p - 48 = 4 then 0 else 9) 3 (cs p - 48) (1, p + 1)).2.1) ac a b c) := k
      have e3 : 0 * 10 + (cs p - 48) = cs p - 48 := by omega
      rw [e3]
      by_cases q : cs p - 48 = 4
      · rw [if_pos q] at k
        exact q_dgK3 (m := 0) hx ⟨by omega, by omega⟩ (by omega) k
      · rw [if_neg q] at k
        exact q_dgK3 (m := 9) hx ⟨by omega, by omega⟩ (by omega) k
    · exact bad p 0 (sD_no (by omega)) 0
theorem q_plus {Q : Int → XZ → Prop} (hx : XOK x cs) (hg : gd (g, p)) (k : ∀ r : Int, ((sS cs (g, p)).2.1 = 1 → r = (sS cs (g, p)).1) → Q r (xS x (sS cs (g, p)).2.2 (1 - (sS cs (g, p)).2.1) ac a b c)) : Z_X_plusOrMinus (xS x p (1 - g) ac a b c) Q := by
  obtain ⟨g1, g2, g3⟩ := hg
  have g2 : 0 ≤ p := g2
  have g3 : p ≤ 120 := g3
  refine q_sign hx g2 (fun r r1 r2 => ?_)
  rcases g1 with z | z
  · have z : g = 0 := z
    subst z
    have e : (sS cs (0, p)).2 = (0, p) := by
      unfold sS
      rw [if_neg (fun z => absurd (show (0 : Int) = 1 from z.1) (by decide))]
    rw [e] at k
    refine ⟨fun _ => ?_, fun z => absurd (show (1 : Int) - 0 = 0 from z) (by decide)⟩
    rintro _ rfl
    exact k 0 (fun z => absurd (show (0 : Int) = 1 from z) (by decide))
  · have z : g = 1 := z
    subst z
    have cn := hx.1.2.1 p
    have go : r = 43 ∨ r = 45 → ZJ_X_plusOrMinus_31 r (xS x p (1 - 1) ac a b c) Q := by
      intro hr
      have hp : 0 ≤ p ∧ p < Xz_length x := by
        by_cases q : 0 ≤ p ∧ p < Xz_length x
        · exact q
        · have := r2 q
          omega
      have e := r1 hp
      subst e
      have e2 : sS cs (1, p) = (if cs p = 43 then 1 else 0, 1, p + 1) := if_pos ⟨rfl, hr⟩
      rw [e2] at k
      refine ⟨by show -2147483648 ≤ p + 1 ∧ p + 1 < 2147483648; omega, ?_⟩
      rintro _ rfl
      refine ⟨fun z => q_asNumber (fun _ => ?_) (fun z => absurd rfl z), fun z => q_asNumber (fun z => absurd z (by decide)) (fun _ => ?_)⟩
      · exact k 0 (fun _ => (if_neg z).symm)
      · exact k 1 (fun _ => (if_pos z).symm)
    refine ⟨fun z => absurd (show (1 : Int) - 1 = 0 by decide) z, fun _ => ⟨fun z => go (Or.inl z), fun z => ⟨fun z2 => go (Or.inr z2), fun z2 => ?_⟩⟩⟩
    rintro _ rfl
    have no : ¬ (cs p = 43 ∨ cs p = 45) := by
      by_cases q : 0 ≤ p ∧ p < Xz_length x
      · have := r1 q
        omega
      · have := cn q
        omega
    have e : (sS cs (1, p)).2 = (0, p) := by
      unfold sS
      rw [if_neg (fun z => no z.2)]
    rw [e] at k
    exact k 0 (fun z => absurd (show (0 : Int) = 1 from z) (by decide))
theorem q_actionOf {v : XZ} {r : Int} {Q : Int → Prop} (k : Q (aOf r)) : Z_X_actionOf r v Q := by
  have kk : ∀ z : Int, aOf r = z → Q z := fun z e => e ▸ k
  unfold Z_X_actionOf
  refine ⟨fun c => kk 4 ?_, fun c0 => ⟨fun c => kk (-1) ?_, fun c1 => ⟨fun c => kk 1 ?_, fun c2 => ⟨fun c => kk (-1) ?_, fun c3 => ⟨fun c => kk 3 ?_, fun c4 => ⟨fun c => kk (-1) ?_, fun c5 => ⟨fun c => kk (-1) ?_, fun c6 => ⟨fun c => kk (-1) ?_, fun c7 => ⟨fun c => kk (-1) ?_, fun c8 => ⟨fun c => kk (-1) ?_, fun c9 => ⟨fun c => kk 2 ?_, fun c10 => ⟨fun c => kk 5 ?_, fun c11 => ⟨fun c => kk 6 ?_, fun c12 => ⟨fun c => kk (-1) ?_, fun c13 => ⟨fun c => kk (-1) ?_, fun c14 => ⟨fun c => kk 0 ?_, fun c15 => kk (-1) ?_⟩⟩⟩⟩⟩⟩⟩⟩⟩⟩⟩⟩⟩⟩⟩⟩
  case refine_17 =>
    unfold aOf
    rw [if_neg c15, if_neg c2, if_neg c10, if_neg c4, if_neg c0, if_neg c11, if_neg c12]
  all_goals
    subst c
    decide
end QT
/-! ### the class understands, finds errors, runs -/
def errF (cs : Int → Int) (L : Int) : Nat → Int → Int
  | 0, _ => -1
  | n + 1, p => if p < L then (if (prs cs p).2.2.2.1 = 1 then errF cs L n (prs cs p).2.2.2.2 else (prs cs p).2.2.2.2) else -1
def errA (cs : Int → Int) (L : Int) : Int := if cs 0 = 71 then errF cs L 60 1 else 0
/-- the way of a load: what is left out, and the state then -/
def ldR (cs : Int → Int) (L : Int) : Nat → Int → SZ → Int → SZ → Prop
  | 0, _, σ, l, τ => l = 0 ∧ τ = σ
  | n + 1, p, σ, l, τ => if p < L ∧ (prs cs p).2.2.2.1 = 1 then ∃ r σ' l', attR σ (aOf (cs p)).toNat (prs cs p).1 (prs cs p).2.1 (prs cs p).2.2.1 r σ' ∧ ldR cs L n (prs cs p).2.2.2.2 σ' l' τ ∧ l = (1 - r) + l' else l = 0 ∧ τ = σ
theorem aOf_in {c : Int} : -1 ≤ aOf c ∧ aOf c ≤ 6 := by
  unfold aOf
  split
  · decide
  · split
    · decide
    · split
      · decide
      · split
        · decide
        · split
          · decide
          · split
            · decide
            · split <;> decide
theorem prs_val {cs : Int → Int} {p : Int} (q : aOf (cs p) ≠ -1) : valA (aOf (cs p)).toNat (prs cs p).2.1 (prs cs p).2.2.1 := by
  have e : prs cs p = pA cs (1, p + 1) (aOf (cs p)).toNat := if_neg q
  rw [e]
  generalize (aOf (cs p)).toNat = n
  match n with
  | 0 => trivial
  | 1 => exact sS_in
  | 2 => trivial
  | 3 => trivial
  | 4 => exact sS_in
  | 5 => trivial
  | n + 6 => trivial
section QU
variable {cs : Int → Int} {x : XZ}
theorem q_understand {p ac0 a0 b0 c0 : Int} {Q : XZ → Prop} (hx : XOK x cs) (hp : 0 ≤ p ∧ p < Xz_length x) (k : ∀ ac a b c : Int, ((prs cs p).2.2.2.1 = 1 → ac = aOf (cs p) ∧ a = (prs cs p).1 ∧ b = (prs cs p).2.1 ∧ c = (prs cs p).2.2.1) → Q (xS x (prs cs p).2.2.2.2 (1 - (prs cs p).2.2.2.1) ac a b c)) : Z_X_understand (xS x p 0 ac0 a0 b0 c0) Q := by
  have hL := hx.1.1
  refine q_sign hx hp.1 (fun r r1 _ => ?_)
  have e := r1 hp
  subst e
  refine q_actionOf ?_
  rintro _ rfl
  have g0 : gd ((1 : Int), p + 1) := ⟨Or.inr rfl, by show 0 ≤ p + 1; omega, by show p + 1 ≤ 120; omega⟩
  have ai := aOf_in (c := cs p)
  by_cases q : aOf (cs p) = -1
  · have e : prs cs p = (0, 0, 0, 0, p) := if_pos q
    rw [e] at k
    refine ⟨fun z => absurd q z, fun _ => ?_⟩
    rintro _ rfl
    exact k _ _ _ _ (fun z => absurd (show (0 : Int) = 1 from z) (by decide))
  · have e : prs cs p = pA cs (1, p + 1) (aOf (cs p)).toNat := if_neg q
    rw [e] at k
    refine ⟨fun _ => ⟨by show -2147483648 ≤ p + 1 ∧ p + 1 < 2147483648; omega, ?_⟩, fun z => absurd z q⟩
    rintro _ rfl _ rfl _ rfl
    clear e
    generalize aOf (cs p) = A at *
    have d7 := sD_gd (lo := 0) (hi := 7) hx.1 (by decide) g0
    rcases (show A = 0 ∨ A = 1 ∨ A = 2 ∨ A = 3 ∨ A = 4 ∨ A = 5 ∨ A = 6 by omega) with h | h | h | h | h | h | h <;> subst h
    · refine ⟨fun _ => ⟨fun _ => ?_, fun z => absurd (show (0 : Int) = 5 from z) (by decide)⟩, fun z => absurd (show (0 : Int) = 6 from z) (by decide)⟩
      refine q_digit1 (g := 1) (p := p + 1) (ac := 0) (a := a0) (b := 0) (c := 0) hx g0 (by decide) (fun r1 h1 => ?_)
      rintro _ rfl
      refine ⟨fun z => absurd rfl z, fun _ => ?_⟩
      have d2 := sT_gd (lo := 0) (hi := 99) hx.1 (by decide) d7.1
      have d3 := sT_gd (lo := 1) (hi := 40) hx.1 (by decide) d2.1
      refine q_digit2 (g := (sD cs 0 7 (1, p + 1)).2.1) (p := (sD cs 0 7 (1, p + 1)).2.2) (ac := 0) (a := r1) (b := 0) (c := 0) hx d7.1 (by decide) (fun r2 h2 => ?_)
      rintro _ rfl
      refine q_digit2 (g := (sT cs 0 99 (sD cs 0 7 (1, p + 1)).2).2.1) (p := (sT cs 0 99 (sD cs 0 7 (1, p + 1)).2).2.2) (ac := 0) (a := r1) (b := r2) (c := 0) hx d2.1 (by decide) (fun r3 h3 => ?_)
      rintro _ rfl
      exact k 0 r1 r2 r3 (fun z => ⟨rfl, h1 (d2.2 (d3.2 z).1).1, h2 (d3.2 z).1, h3 z⟩)
    · refine ⟨fun _ => ⟨fun _ => ?_, fun z => absurd (show (1 : Int) = 5 from z) (by decide)⟩, fun z => absurd (show (1 : Int) = 6 from z) (by decide)⟩
      refine q_digit1 (g := 1) (p := p + 1) (ac := 1) (a := a0) (b := 0) (c := 0) hx g0 (by decide) (fun r1 h1 => ?_)
      rintro _ rfl
      refine ⟨fun _ => ⟨fun z => absurd rfl z, fun _ => ?_⟩, fun z => absurd (show (1 : Int) = 0 from z) (by decide)⟩
      have d2 := sD_gd (lo := 0) (hi := 2) hx.1 (by decide) d7.1
      have d3 := sS_gd hx.1 d2.1
      refine q_digit1 (g := (sD cs 0 7 (1, p + 1)).2.1) (p := (sD cs 0 7 (1, p + 1)).2.2) (ac := 1) (a := r1) (b := 0) (c := 0) hx d7.1 (by decide) (fun r2 h2 => ?_)
      rintro _ rfl
      refine q_plus (g := (sD cs 0 2 (sD cs 0 7 (1, p + 1)).2).2.1) (p := (sD cs 0 2 (sD cs 0 7 (1, p + 1)).2).2.2) (ac := 1) (a := r1) (b := r2) (c := 0) hx d2.1 (fun r3 h3 => ?_)
      rintro _ rfl
      exact k 1 r1 r2 r3 (fun z => ⟨rfl, h1 (d2.2 (d3.2 z).1).1, h2 (d3.2 z).1, h3 z⟩)
    · refine ⟨fun _ => ⟨fun _ => ?_, fun z => absurd (show (2 : Int) = 5 from z) (by decide)⟩, fun z => absurd (show (2 : Int) = 6 from z) (by decide)⟩
      refine q_digit1 (g := 1) (p := p + 1) (ac := 2) (a := a0) (b := 0) (c := 0) hx g0 (by decide) (fun r1 h1 => ?_)
      rintro _ rfl
      refine ⟨fun _ => ⟨fun _ => ⟨fun z => absurd rfl z, fun _ => ?_⟩, fun z => absurd (show (2 : Int) = 1 from z) (by decide)⟩, fun z => absurd (show (2 : Int) = 0 from z) (by decide)⟩
      have d2 := sT_gd (lo := 1) (hi := 50) hx.1 (by decide) d7.1
      refine q_digit2 (g := (sD cs 0 7 (1, p + 1)).2.1) (p := (sD cs 0 7 (1, p + 1)).2.2) (ac := 2) (a := r1) (b := 0) (c := 0) hx d7.1 (by decide) (fun r2 h2 => ?_)
      rintro _ rfl
      exact k 2 r1 r2 0 (fun z => ⟨rfl, h1 (d2.2 z).1, h2 z, rfl⟩)
    · refine ⟨fun _ => ⟨fun _ => ?_, fun z => absurd (show (3 : Int) = 5 from z) (by decide)⟩, fun z => absurd (show (3 : Int) = 6 from z) (by decide)⟩
      refine q_digit1 (g := 1) (p := p + 1) (ac := 3) (a := a0) (b := 0) (c := 0) hx g0 (by decide) (fun r1 h1 => ?_)
      rintro _ rfl
      refine ⟨fun _ => ⟨fun _ => ⟨fun _ => ⟨fun _ => ?_, fun z => absurd (show (3 : Int) = 4 from z) (by decide)⟩, fun z => absurd (show (3 : Int) = 2 from z) (by decide)⟩, fun z => absurd (show (3 : Int) = 1 from z) (by decide)⟩, fun z => absurd (show (3 : Int) = 0 from z) (by decide)⟩
      exact k 3 r1 0 0 (fun z => ⟨rfl, h1 z, rfl, rfl⟩)
    · refine ⟨fun _ => ⟨fun _ => ?_, fun z => absurd (show (4 : Int) = 5 from z) (by decide)⟩, fun z => absurd (show (4 : Int) = 6 from z) (by decide)⟩
      refine q_digit1 (g := 1) (p := p + 1) (ac := 4) (a := a0) (b := 0) (c := 0) hx g0 (by decide) (fun r1 h1 => ?_)
      rintro _ rfl
      refine ⟨fun _ => ⟨fun _ => ⟨fun _ => ⟨fun z => absurd rfl z, fun _ => ?_⟩, fun z => absurd (show (4 : Int) = 2 from z) (by decide)⟩, fun z => absurd (show (4 : Int) = 1 from z) (by decide)⟩, fun z => absurd (show (4 : Int) = 0 from z) (by decide)⟩
      have d2 := sS_gd hx.1 d7.1
      refine q_plus (g := (sD cs 0 7 (1, p + 1)).2.1) (p := (sD cs 0 7 (1, p + 1)).2.2) (ac := 4) (a := r1) (b := 0) (c := 0) hx d7.1 (fun r2 h2 => ?_)
      rintro _ rfl
      exact k 4 r1 r2 0 (fun z => ⟨rfl, h1 (d2.2 z).1, h2 z, rfl⟩)
    · refine ⟨fun _ => ⟨fun z => absurd rfl z, fun _ => ?_⟩, fun z => absurd (show (5 : Int) = 6 from z) (by decide)⟩
      have d1 := sD_gd (lo := 0) (hi := 5) hx.1 (by decide) g0
      have d2 := sF_gd hx.1 d1.1
      refine q_digit1 (g := 1) (p := p + 1) (ac := 5) (a := a0) (b := 0) (c := 0) hx g0 (by decide) (fun r1 h1 => ?_)
      rintro _ rfl
      refine q_digit4 (g := (sD cs 0 5 (1, p + 1)).2.1) (p := (sD cs 0 5 (1, p + 1)).2.2) (ac := 5) (a := r1) (b := 0) (c := 0) hx d1.1 (fun r2 h2 => ?_)
      rintro _ rfl
      exact k 5 r1 r2 0 (fun z => ⟨rfl, h1 (d2.2 z).1, h2 z, rfl⟩)
    · refine ⟨fun z => absurd rfl z, fun _ => ?_⟩
      refine q_digit2 (g := 1) (p := p + 1) (ac := 6) (a := a0) (b := 0) (c := 0) hx g0 (by decide) (fun r1 h1 => ?_)
      rintro _ rfl
      exact k 6 r1 0 0 (fun z => ⟨rfl, h1 z, rfl, rfl⟩)
theorem q_findFail {f : Nat} {i p wr ac a b c : Int} {Q : Int → XZ → Prop} (hw : ¬ wr = 0) (k : Q p (xS x p wr ac a b c)) : ZL_X_findError_6 (f + 1) i (xS x p wr ac a b c) Q := by
  rw [ZL_X_findError_6]
  exact ⟨fun _ => ⟨fun z => absurd z hw, fun _ => k⟩, fun _ => ⟨fun _ => ⟨fun _ => ⟨fun z => absurd z hw, fun _ => k⟩, fun z => absurd rfl z⟩, fun z => absurd z hw⟩⟩
theorem q_findLoop {Q : Int → XZ → Prop} (hx : XOK x cs) : ∀ (n : Nat) (i p ac a b c : Int), i + n = 60 → 0 ≤ i → 0 ≤ p → Xz_length x < p + 2 * n → (∀ p' wr ac a b c : Int, Q (errF cs (Xz_length x) n p) (xS x p' wr ac a b c)) → ZL_X_findError_6 (n + 1 + 1) i (xS x p 0 ac a b c) Q := by
  intro n
  induction n with
  | zero =>
    intro i p ac a b c hi h0 hp hL k
    rw [ZL_X_findError_6]
    exact ⟨fun z => absurd z (by omega), fun _ => ⟨fun z => absurd rfl z, fun _ => ⟨fun _ => ⟨fun _ => ⟨fun _ => k _ _ _ _ _ _, fun z => absurd rfl z⟩, fun z => absurd rfl z⟩, fun z => absurd (show Xz_length x ≤ p by omega) z⟩⟩⟩
  | succ n ih =>
    intro i p ac a b c hi h0 hp hL k
    rw [ZL_X_findError_6]
    refine ⟨fun z => absurd z (by omega), fun _ => ⟨fun z => absurd rfl z, fun _ => ⟨fun z => ⟨fun _ => ⟨fun _ => ?_, fun z => absurd rfl z⟩, fun z => absurd rfl z⟩, fun z => ⟨fun z => absurd z (by decide), fun _ => ?_⟩⟩⟩⟩
    · have z : Xz_length x ≤ p := z
      have e : errF cs (Xz_length x) (n + 1) p = -1 := if_neg (by omega)
      rw [e] at k
      exact k _ _ _ _ _ _
    · have z : ¬ Xz_length x ≤ p := z
      have hpL : p < Xz_length x := by omega
      have d := prs_gd hx.1 hp hpL
      refine q_understand hx ⟨hp, hpL⟩ (fun ac' a' b' c' hv => ⟨by omega, ?_⟩)
      by_cases q : (prs cs p).2.2.2.1 = 1
      · have e : errF cs (Xz_length x) (n + 1) p = errF cs (Xz_length x) n (prs cs p).2.2.2.2 := by
          show (if p < Xz_length x then (if (prs cs p).2.2.2.1 = 1 then errF cs (Xz_length x) n (prs cs p).2.2.2.2 else (prs cs p).2.2.2.2) else -1) = _
          rw [if_pos hpL, if_pos q]
        rw [e] at k
        rw [q]
        have d2 := d.2 q
        exact ih (i + 1) (prs cs p).2.2.2.2 ac' a' b' c' (by omega) (by omega) (by omega) (by omega) k
      · have e : errF cs (Xz_length x) (n + 1) p = (prs cs p).2.2.2.2 := by
          show (if p < Xz_length x then (if (prs cs p).2.2.2.1 = 1 then errF cs (Xz_length x) n (prs cs p).2.2.2.2 else (prs cs p).2.2.2.2) else -1) = _
          rw [if_pos hpL, if_neg q]
        rw [e] at k
        have q0 : (prs cs p).2.2.2.1 = 0 := by
          rcases d.1.1 with y | y
          · exact y
          · exact absurd y q
        rw [q0]
        exact q_findFail (by decide) (k _ _ _ _ _ _)
theorem q_begin {Q : XZ → Prop} (hx : XOK x cs) (k1 : cs 0 = 71 → Q (xS x 1 0 (Xz_action x) (Xz_a x) (Xz_b x) (Xz_c x))) (k0 : ¬ cs 0 = 71 → Q (xS x 0 1 (Xz_action x) (Xz_a x) (Xz_b x) (Xz_c x))) : Z_X_begin x Q := by
  rintro _ rfl
  have cn := hx.1.2.1 0
  refine q_sign (x := x) (p := 0) (wr := Xz_wrong x) (ac := Xz_action x) (a := Xz_a x) (b := Xz_b x) (c := Xz_c x) hx (Int.le_refl _) (fun r r1 r2 => ⟨fun z => ?_, fun z => ?_⟩)
  · have e : cs 0 = 71 := by
      by_cases q : 0 ≤ (0 : Int) ∧ 0 < Xz_length x
      · rw [← r1 q]
        exact z
      · have := r2 q
        omega
    refine ⟨Or.inl rfl, ?_⟩
    rintro _ rfl
    refine ⟨fun z => absurd rfl z, fun _ => ⟨by show -2147483648 ≤ (0 : Int) + 1 ∧ (0 : Int) + 1 < 2147483648; decide, ?_⟩⟩
    rintro _ rfl
    exact k1 e
  · have e : ¬ cs 0 = 71 := by
      by_cases q : 0 ≤ (0 : Int) ∧ 0 < Xz_length x
      · rw [← r1 q]
        exact z
      · rw [cn q]
        decide
    refine ⟨Or.inr rfl, ?_⟩
    rintro _ rfl
    exact ⟨fun _ => k0 e, fun z => absurd (show (1 : Int) = 0 from z) (by decide)⟩
theorem q_findError {Q : Int → XZ → Prop} (hx : XOK x cs) (k : ∀ p' wr ac a b c : Int, Q (errA cs (Xz_length x)) (xS x p' wr ac a b c)) : Z_X_findError x Q := by
  have hL := hx.1.1
  refine q_begin hx (fun e => ?_) (fun e => ?_)
  · unfold errA at k
    rw [if_pos e] at k
    exact ⟨_, q_findLoop hx 60 0 1 _ _ _ _ (by decide) (by decide) (by decide) (by show Xz_length x < 1 + 2 * 60; omega) k⟩
  · unfold errA at k
    rw [if_neg e] at k
    exact ⟨1, q_findFail (by decide) (k _ _ _ _ _ _)⟩
theorem q_runLoop {Q : Int → XZ → SZ → Prop} (hx : XOK x cs) : ∀ (n : Nat) (i p ac a b c l0 : Int) (σ : SZ) (T : Int), i + n = 60 → 0 ≤ i → 0 ≤ p → Xz_length x < p + 2 * n → (0 ≤ l0 ∧ l0 ≤ i) → SOK σ T → T + 99 * n ≤ 5000000 → errF cs (Xz_length x) n p = -1 → (∀ (l : Int) (τ : SZ) (p' wr ac a b c : Int), ldR cs (Xz_length x) n p σ l τ → SOK τ (T + 99 * n) → Q (l0 + l) (xS x p' wr ac a b c) τ) → ZL_X_runOn_8 (n + 1) l0 i (xS x p 0 ac a b c) σ Q := by
  intro n
  induction n with
  | zero =>
    intro i p ac a b c l0 σ T hi h0 hp hL hl h hT he k
    rw [ZL_X_runOn_8]
    have g := k 0 σ p 0 ac a b c ⟨rfl, rfl⟩ (h.mono (by omega) (by omega))
    rw [Int.add_zero] at g
    exact ⟨fun z => absurd z (by omega), fun _ => ⟨fun z => absurd rfl z, fun _ => ⟨fun _ => ⟨fun _ => g, fun z => absurd rfl z⟩, fun z => absurd (show Xz_length x ≤ p by omega) z⟩⟩⟩
  | succ n ih =>
    intro i p ac a b c l0 σ T hi h0 hp hL hl h hT he k
    rw [ZL_X_runOn_8]
    refine ⟨fun z => absurd z (by omega), fun _ => ⟨fun z => absurd rfl z, fun _ => ⟨fun z => ⟨fun _ => ?_, fun z => absurd rfl z⟩, fun z => ⟨fun z => absurd z (by decide), fun _ => ?_⟩⟩⟩⟩
    · have z : Xz_length x ≤ p := z
      have e : ldR cs (Xz_length x) (n + 1) p σ 0 σ := by
        show (if p < Xz_length x ∧ (prs cs p).2.2.2.1 = 1 then ∃ r σ' l', attR σ (aOf (cs p)).toNat (prs cs p).1 (prs cs p).2.1 (prs cs p).2.2.1 r σ' ∧ ldR cs (Xz_length x) n (prs cs p).2.2.2.2 σ' l' σ ∧ 0 = (1 - r) + l' else 0 = 0 ∧ σ = σ)
        rw [if_neg (by omega)]
        exact ⟨rfl, rfl⟩
      have g := k 0 σ p 0 ac a b c e (h.mono (by omega) (by omega))
      rw [Int.add_zero] at g
      exact g
    · have z : ¬ Xz_length x ≤ p := z
      have hpL : p < Xz_length x := by omega
      have d := prs_gd hx.1 hp hpL
      have he : (if p < Xz_length x then (if (prs cs p).2.2.2.1 = 1 then errF cs (Xz_length x) n (prs cs p).2.2.2.2 else (prs cs p).2.2.2.2) else -1) = -1 := he
      rw [if_pos hpL] at he
      have d1 := d.1.2.1
      have q : (prs cs p).2.2.2.1 = 1 := by
        by_cases q : (prs cs p).2.2.2.1 = 1
        · exact q
        · rw [if_neg q] at he
          omega
      rw [if_pos q] at he
      have d2 := d.2 q
      have ai := aOf_in (c := cs p)
      refine q_understand hx ⟨hp, hpL⟩ (fun ac' a' b' c' hv => ?_)
      obtain ⟨v1, v2, v3, v4⟩ := hv q
      subst v1; subst v2; subst v3; subst v4
      have pv := prs_val (cs := cs) (p := p) d2.1
      rw [q]
      refine ⟨fun z => absurd (show (1 : Int) - 1 = 0 by decide) z, fun _ => ?_⟩
      have main : ∀ A : Int, A = aOf (cs p) → Z_S_attempt A (prs cs p).1 (prs cs p).2.1 (prs cs p).2.2.1 σ (fun r30_ v34_ => ((¬ r30_ = 0 → (Z_T_asNumber 0 (fun r40_ => zin (l0 + r40_) ∧ zin (i + 1) ∧ (ZL_X_runOn_8 (n + 1) (l0 + r40_) (i + 1) (xS x (prs cs p).2.2.2.2 (1 - 1) (aOf (cs p)) (prs cs p).1 (prs cs p).2.1 (prs cs p).2.2.1) v34_ Q)))) ∧ (r30_ = 0 → (Z_T_asNumber 1 (fun r44_ => zin (l0 + r44_) ∧ zin (i + 1) ∧ (ZL_X_runOn_8 (n + 1) (l0 + r44_) (i + 1) (xS x (prs cs p).2.2.2.2 (1 - 1) (aOf (cs p)) (prs cs p).1 (prs cs p).2.1 (prs cs p).2.2.1) v34_ Q)))))) := by
        intro A hA
        rw [show A = (((aOf (cs p)).toNat : Nat) : Int) by omega]
        refine q_attR (by omega) h (by omega) pv (fun r σ' e => ?_)
        have e' := e.ok h (by omega) pv
        have go : ∀ y : Int, y = 1 - r → ZL_X_runOn_8 (n + 1) (l0 + y) (i + 1) (xS x (prs cs p).2.2.2.2 (1 - 1) (aOf (cs p)) (prs cs p).1 (prs cs p).2.1 (prs cs p).2.2.1) σ' Q := by
          intro y hy
          refine ih (i + 1) (prs cs p).2.2.2.2 _ _ _ _ (l0 + y) σ' (T + 99) (by omega) (by omega) (by omega) (by omega) (by omega) e'.1 (by omega) he (fun l τ p' wr ac a b c p2 s2 => ?_)
          have e3 : ldR cs (Xz_length x) (n + 1) p σ (1 - r + l) τ := by
            show (if p < Xz_length x ∧ (prs cs p).2.2.2.1 = 1 then ∃ r2 σ2 l', attR σ (aOf (cs p)).toNat (prs cs p).1 (prs cs p).2.1 (prs cs p).2.2.1 r2 σ2 ∧ ldR cs (Xz_length x) n (prs cs p).2.2.2.2 σ2 l' τ ∧ 1 - r + l = (1 - r2) + l' else 1 - r + l = 0 ∧ τ = σ)
            rw [if_pos ⟨hpL, q⟩]
            exact ⟨r, σ', l, e, p2, rfl⟩
          have g := k (1 - r + l) τ p' wr ac a b c e3 (s2.mono (by omega) (by omega))
          rw [show l0 + y + l = l0 + (1 - r + l) by omega]
          exact g
        refine ⟨fun z => q_asNumber (fun _ => ⟨by omega, by omega, go 0 (by omega)⟩) (fun z => absurd rfl z), fun z => q_asNumber (fun z => absurd z (by decide)) (fun _ => ⟨by omega, by omega, go 1 (by omega)⟩)⟩
      exact main _ rfl
theorem q_runOn {σ : SZ} {T : Int} {Q : Int → XZ → SZ → Prop} (hx : XOK x cs) (h : SOK σ T) (hT : T + 5940 ≤ 5000000) (he : errA cs (Xz_length x) = -1) (k : ∀ (l : Int) (τ : SZ) (p' wr ac a b c : Int), ldR cs (Xz_length x) 60 1 σ l τ → SOK τ (T + 5940) → Q l (xS x p' wr ac a b c) τ) : Z_X_runOn x σ Q := by
  have hL := hx.1.1
  unfold errA at he
  refine q_begin hx (fun e => ?_) (fun e => ?_)
  · rw [if_pos e] at he
    refine ⟨_, q_runLoop hx 60 0 1 _ _ _ _ 0 σ T (by decide) (by decide) (by decide) (by show Xz_length x < 1 + 2 * 60; omega) ⟨Int.le_refl _, Int.le_refl _⟩ h (by show T + 99 * 60 ≤ 5000000; omega) he (fun l τ p' wr ac a b c p2 s2 => ?_)⟩
    rw [Int.zero_add]
    exact k l τ p' wr ac a b c p2 s2
  · rw [if_neg e] at he
    omega
end QU

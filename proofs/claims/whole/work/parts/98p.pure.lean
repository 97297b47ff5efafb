/-! ### the text: what is understood -/
def sgF (s : Nat → Int) (L p : Int) : Int := if 0 ≤ p ∧ p < L then s p.toNat else -1
/-- a digit, a sign, two digits, four digits: value, good, place behind -/
def sD (cs : Int → Int) (lo hi : Int) (st : Int × Int) : Int × Int × Int := if st.1 = 1 ∧ lo ≤ cs st.2 - 48 ∧ cs st.2 - 48 ≤ hi then (cs st.2 - 48, 1, st.2 + 1) else (lo, 0, st.2)
def sS (cs : Int → Int) (st : Int × Int) : Int × Int × Int := if st.1 = 1 ∧ (cs st.2 = 43 ∨ cs st.2 = 45) then (if cs st.2 = 43 then 1 else 0, 1, st.2 + 1) else (if cs st.2 = 43 then 1 else 0, 0, st.2)
def sT2 (cs : Int → Int) (lo hi : Int) (a : Int × Int × Int) : Int × Int × Int := sD cs (if a.1 = lo / 10 then lo % 10 else 0) (if a.1 = hi / 10 then hi % 10 else 9) a.2
def sT (cs : Int → Int) (lo hi : Int) (st : Int × Int) : Int × Int × Int := (10 * (sD cs (lo / 10) (hi / 10) st).1 + (sT2 cs lo hi (sD cs (lo / 10) (hi / 10) st)).1, (sT2 cs lo hi (sD cs (lo / 10) (hi / 10) st)).2)
def sK (cs : Int → Int) (m : Int) : Nat → Int → Int × Int → Int × Int × Int
  | 0, v, st => (v, st)
  | n + 1, v, st => sK cs m n (10 * v + (sD cs 0 m st).1) (sD cs 0 m st).2
def sF3 (cs : Int → Int) (a : Int × Int × Int) : Int × Int × Int := sK cs (if a.1 = 4 then 0 else 9) 3 a.1 a.2
def sF (cs : Int → Int) (st : Int × Int) : Int × Int × Int := sF3 cs (sD cs 0 4 st)
def pA (cs : Int → Int) (st : Int × Int) : Nat → Int × Int × Int × Int × Int
  | 0 => ((sD cs 0 7 st).1, (sT cs 0 99 (sD cs 0 7 st).2).1, (sT cs 1 40 (sT cs 0 99 (sD cs 0 7 st).2).2).1, (sT cs 1 40 (sT cs 0 99 (sD cs 0 7 st).2).2).2)
  | 1 => ((sD cs 0 7 st).1, (sD cs 0 2 (sD cs 0 7 st).2).1, (sS cs (sD cs 0 2 (sD cs 0 7 st).2).2).1, (sS cs (sD cs 0 2 (sD cs 0 7 st).2).2).2)
  | 2 => ((sD cs 0 7 st).1, (sT cs 1 50 (sD cs 0 7 st).2).1, 0, (sT cs 1 50 (sD cs 0 7 st).2).2)
  | 3 => ((sD cs 0 7 st).1, 0, 0, (sD cs 0 7 st).2)
  | 4 => ((sD cs 0 7 st).1, (sS cs (sD cs 0 7 st).2).1, 0, (sS cs (sD cs 0 7 st).2).2)
  | 5 => ((sD cs 0 5 st).1, (sF cs (sD cs 0 5 st).2).1, 0, (sF cs (sD cs 0 5 st).2).2)
  | _ => ((sT cs 1 99 st).1, 0, 0, (sT cs 1 99 st).2)
def aOf (c : Int) : Int := if c = 119 then 0 else if c = 106 then 1 else if c = 114 then 2 else if c = 108 then 3 else if c = 104 then 4 else if c = 115 then 5 else if c = 116 then 6 else -1
/-- a command: its three numbers, good, the place behind -/
def prs (cs : Int → Int) (p : Int) : Int × Int × Int × Int × Int := if aOf (cs p) = -1 then (0, 0, 0, 0, p) else pA cs (1, p + 1) (aOf (cs p)).toNat
def gd (st : Int × Int) : Prop := (st.1 = 0 ∨ st.1 = 1) ∧ 0 ≤ st.2 ∧ st.2 ≤ 120
def csOK (cs : Int → Int) (L : Int) : Prop := (0 ≤ L ∧ L ≤ 120) ∧ (∀ p : Int, ¬ (0 ≤ p ∧ p < L) → cs p = -1) ∧ ∀ p : Int, -1 ≤ cs p ∧ cs p ≤ 255
section QS
variable {cs : Int → Int} {L lo hi : Int} {st : Int × Int}
theorem sD_ok {p : Int} (h : lo ≤ cs p - 48 ∧ cs p - 48 ≤ hi) : sD cs lo hi (1, p) = (cs p - 48, 1, p + 1) := if_pos ⟨rfl, h⟩
theorem sD_no {g p : Int} (h : ¬ (lo ≤ cs p - 48 ∧ cs p - 48 ≤ hi)) : sD cs lo hi (g, p) = (lo, 0, p) := if_neg (fun z => h z.2)
theorem sD_0 {p : Int} : sD cs lo hi (0, p) = (lo, 0, p) := if_neg (fun z => absurd (show (0 : Int) = 1 from z.1) (by decide))
theorem csOK.at (h : csOK cs L) {p : Int} (hp : cs p ≠ -1) : 0 ≤ p ∧ p < L := by
  by_cases q : 0 ≤ p ∧ p < L
  · exact q
  · exact absurd (h.2.1 p q) hp
theorem sD_gd (h : csOK cs L) (h0 : 0 ≤ lo) (hg : gd st) : gd (sD cs lo hi st).2 ∧ ((sD cs lo hi st).2.1 = 1 → st.1 = 1 ∧ (sD cs lo hi st).2.2 = st.2 + 1) := by
  obtain ⟨g, p⟩ := st
  by_cases q : g = 1 ∧ lo ≤ cs p - 48 ∧ cs p - 48 ≤ hi
  · have e : sD cs lo hi (g, p) = (cs p - 48, 1, p + 1) := if_pos q
    have hp := h.at (p := p) (by omega)
    have hL := h.1
    rw [e]
    exact ⟨⟨Or.inr rfl, by show 0 ≤ p + 1; omega, by show p + 1 ≤ 120; omega⟩, fun _ => ⟨q.1, rfl⟩⟩
  · have e : sD cs lo hi (g, p) = (lo, 0, p) := if_neg q
    rw [e]
    exact ⟨⟨Or.inl rfl, hg.2⟩, fun z => absurd (show (0 : Int) = 1 from z) (by decide)⟩
theorem sD_in (h : lo ≤ hi) : lo ≤ (sD cs lo hi st).1 ∧ (sD cs lo hi st).1 ≤ hi := by
  unfold sD
  split
  · rename_i c
    exact c.2
  · exact ⟨Int.le_refl _, h⟩
theorem sS_gd (h : csOK cs L) (hg : gd st) : gd (sS cs st).2 ∧ ((sS cs st).2.1 = 1 → st.1 = 1 ∧ (sS cs st).2.2 = st.2 + 1) := by
  obtain ⟨g, p⟩ := st
  by_cases q : g = 1 ∧ (cs p = 43 ∨ cs p = 45)
  · have e : sS cs (g, p) = (if cs p = 43 then 1 else 0, 1, p + 1) := if_pos q
    have hp := h.at (p := p) (by omega)
    have hL := h.1
    rw [e]
    exact ⟨⟨Or.inr rfl, by show 0 ≤ p + 1; omega, by show p + 1 ≤ 120; omega⟩, fun _ => ⟨q.1, rfl⟩⟩
  · have e : sS cs (g, p) = (if cs p = 43 then 1 else 0, 0, p) := if_neg q
    rw [e]
    exact ⟨⟨Or.inl rfl, hg.2⟩, fun z => absurd (show (0 : Int) = 1 from z) (by decide)⟩
theorem sS_in : (sS cs st).1 = 0 ∨ (sS cs st).1 = 1 := by
  have e : (sS cs st).1 = if cs st.2 = 43 then 1 else 0 := by
    unfold sS
    split <;> rfl
  rw [e]
  split
  · exact Or.inr rfl
  · exact Or.inl rfl
theorem sT_gd (h : csOK cs L) (h0 : 0 ≤ lo) (hg : gd st) : gd (sT cs lo hi st).2 ∧ ((sT cs lo hi st).2.1 = 1 → st.1 = 1 ∧ (sT cs lo hi st).2.2 = st.2 + 2) := by
  have a := sD_gd (lo := lo / 10) (hi := hi / 10) h (by omega) hg
  have b := sD_gd (lo := if (sD cs (lo / 10) (hi / 10) st).1 = lo / 10 then lo % 10 else 0) (hi := if (sD cs (lo / 10) (hi / 10) st).1 = hi / 10 then hi % 10 else 9) h (by split <;> omega) a.1
  refine ⟨b.1, fun z => ?_⟩
  have b2 := b.2 z
  have a2 := a.2 b2.1
  refine ⟨a2.1, ?_⟩
  show (sT2 cs lo hi (sD cs (lo / 10) (hi / 10) st)).2.2 = _
  have e : (sT2 cs lo hi (sD cs (lo / 10) (hi / 10) st)).2.2 = (sD cs (lo / 10) (hi / 10) st).2.2 + 1 := b2.2
  rw [e, a2.2]
  omega
theorem sT_in (h0 : 0 ≤ lo) (h1 : lo ≤ hi) (h2 : hi ≤ 99) : lo ≤ (sT cs lo hi st).1 ∧ (sT cs lo hi st).1 ≤ hi := by
  have a := sD_in (cs := cs) (st := st) (lo := lo / 10) (hi := hi / 10) (by omega)
  show lo ≤ 10 * (sD cs (lo / 10) (hi / 10) st).1 + (sT2 cs lo hi (sD cs (lo / 10) (hi / 10) st)).1 ∧ 10 * (sD cs (lo / 10) (hi / 10) st).1 + (sT2 cs lo hi (sD cs (lo / 10) (hi / 10) st)).1 ≤ hi
  unfold sT2
  generalize (sD cs (lo / 10) (hi / 10) st) = x at a ⊢
  by_cases q1 : x.1 = lo / 10
  · by_cases q2 : x.1 = hi / 10
    · rw [if_pos q1, if_pos q2]
      have b := sD_in (cs := cs) (st := x.2) (lo := lo % 10) (hi := hi % 10) (by omega)
      omega
    · rw [if_pos q1, if_neg q2]
      have b := sD_in (cs := cs) (st := x.2) (lo := lo % 10) (hi := 9) (by omega)
      omega
  · by_cases q2 : x.1 = hi / 10
    · rw [if_neg q1, if_pos q2]
      have b := sD_in (cs := cs) (st := x.2) (lo := 0) (hi := hi % 10) (by omega)
      omega
    · rw [if_neg q1, if_neg q2]
      have b := sD_in (cs := cs) (st := x.2) (lo := 0) (hi := 9) (by omega)
      omega
theorem sK_gd {m : Int} (h : csOK cs L) : ∀ (n : Nat) (v : Int) (st : Int × Int), gd st → gd (sK cs m n v st).2 ∧ ((sK cs m n v st).2.1 = 1 → st.1 = 1 ∧ (sK cs m n v st).2.2 = st.2 + n)
  | 0, v, st, hg => ⟨hg, fun z => ⟨z, by show st.2 = st.2 + 0; omega⟩⟩
  | n + 1, v, st, hg => by
    have a := sD_gd (lo := 0) (hi := m) h (by decide) hg
    have b := sK_gd (m := m) h n (10 * v + (sD cs 0 m st).1) (sD cs 0 m st).2 a.1
    refine ⟨b.1, fun z => ?_⟩
    have b2 := b.2 z
    have a2 := a.2 b2.1
    refine ⟨a2.1, ?_⟩
    have e : (sK cs m (n + 1) v st).2.2 = (sD cs 0 m st).2.2 + n := b2.2
    rw [e, a2.2]
    omega
theorem sK_bad {m q : Int} : ∀ (n : Nat) (v : Int), (sK cs m n v (0, q)).2 = (0, q)
  | 0, v => rfl
  | n + 1, v => by
    show (sK cs m n (10 * v + (sD cs 0 m (0, q)).1) (sD cs 0 m (0, q)).2).2 = (0, q)
    rw [sD_0]
    exact sK_bad n _
theorem sF_gd (h : csOK cs L) (hg : gd st) : gd (sF cs st).2 ∧ ((sF cs st).2.1 = 1 → st.1 = 1 ∧ (sF cs st).2.2 = st.2 + 4) := by
  have a := sD_gd (lo := 0) (hi := 4) h (by decide) hg
  have b := sK_gd (m := if (sD cs 0 4 st).1 = 4 then 0 else 9) h 3 (sD cs 0 4 st).1 (sD cs 0 4 st).2 a.1
  refine ⟨b.1, fun z => ?_⟩
  have b2 := b.2 z
  have a2 := a.2 b2.1
  refine ⟨a2.1, ?_⟩
  have e : (sF cs st).2.2 = (sD cs 0 4 st).2.2 + 3 := b2.2
  rw [e, a2.2]
  omega
theorem sK3_in {m v : Int} (hm : 0 ≤ m) : 1000 * v ≤ (sK cs m 3 v st).1 ∧ (sK cs m 3 v st).1 ≤ 1000 * v + 111 * m := by
  have b := sD_in (cs := cs) (lo := 0) (hi := m) (st := st) hm
  have c := sD_in (cs := cs) (lo := 0) (hi := m) (st := (sD cs 0 m st).2) hm
  have d := sD_in (cs := cs) (lo := 0) (hi := m) (st := (sD cs 0 m (sD cs 0 m st).2).2) hm
  show 1000 * v ≤ 10 * (10 * (10 * v + (sD cs 0 m st).1) + (sD cs 0 m (sD cs 0 m st).2).1) + (sD cs 0 m (sD cs 0 m (sD cs 0 m st).2).2).1 ∧ 10 * (10 * (10 * v + (sD cs 0 m st).1) + (sD cs 0 m (sD cs 0 m st).2).1) + (sD cs 0 m (sD cs 0 m (sD cs 0 m st).2).2).1 ≤ 1000 * v + 111 * m
  omega
theorem sF_in : 0 ≤ (sF cs st).1 ∧ (sF cs st).1 ≤ 4000 := by
  have a := sD_in (cs := cs) (st := st) (lo := 0) (hi := 4) (by decide)
  unfold sF sF3
  by_cases q : (sD cs 0 4 st).1 = 4
  · rw [if_pos q]
    have b := sK3_in (cs := cs) (m := 0) (v := (sD cs 0 4 st).1) (st := (sD cs 0 4 st).2) (by decide)
    omega
  · rw [if_neg q]
    have b := sK3_in (cs := cs) (m := 9) (v := (sD cs 0 4 st).1) (st := (sD cs 0 4 st).2) (by decide)
    omega
theorem prs_gd (h : csOK cs L) {p : Int} (h0 : 0 ≤ p) (h1 : p < L) : gd (prs cs p).2.2.2 ∧ ((prs cs p).2.2.2.1 = 1 → aOf (cs p) ≠ -1 ∧ p + 2 ≤ (prs cs p).2.2.2.2) := by
  have hL := h.1
  have g0 : gd ((1 : Int), p + 1) := ⟨Or.inr rfl, by show 0 ≤ p + 1; omega, by show p + 1 ≤ 120; omega⟩
  by_cases q : aOf (cs p) = -1
  · have e : prs cs p = (0, 0, 0, 0, p) := if_pos q
    rw [e]
    exact ⟨⟨Or.inl rfl, h0, by show p ≤ 120; omega⟩, fun z => absurd (show (0 : Int) = 1 from z) (by decide)⟩
  · have e : prs cs p = pA cs (1, p + 1) (aOf (cs p)).toNat := if_neg q
    rw [e]
    have d7 := sD_gd (lo := 0) (hi := 7) h (by decide) g0
    generalize (aOf (cs p)).toNat = n
    match n with
    | 0 =>
      have b := sT_gd (lo := 0) (hi := 99) h (by decide) d7.1
      have c := sT_gd (lo := 1) (hi := 40) h (by decide) b.1
      refine ⟨c.1, fun z => ⟨q, ?_⟩⟩
      have c2 := c.2 z
      have b2 := b.2 c2.1
      have a2 := (d7.2 b2.1).2
      have e2 : (pA cs (1, p + 1) 0).2.2.2.2 = (sT cs 0 99 (sD cs 0 7 (1, p + 1)).2).2.2 + 2 := c2.2
      have a3 : (sD cs 0 7 (1, p + 1)).2.2 = p + 1 + 1 := a2
      rw [e2, b2.2, a3]
      omega
    | 1 =>
      have b := sD_gd (lo := 0) (hi := 2) h (by decide) d7.1
      have c := sS_gd h b.1
      refine ⟨c.1, fun z => ⟨q, ?_⟩⟩
      have c2 := c.2 z
      have b2 := b.2 c2.1
      have a3 : (sD cs 0 7 (1, p + 1)).2.2 = p + 1 + 1 := (d7.2 b2.1).2
      have e2 : (pA cs (1, p + 1) 1).2.2.2.2 = (sD cs 0 2 (sD cs 0 7 (1, p + 1)).2).2.2 + 1 := c2.2
      rw [e2, b2.2, a3]
      omega
    | 2 =>
      have b := sT_gd (lo := 1) (hi := 50) h (by decide) d7.1
      refine ⟨b.1, fun z => ⟨q, ?_⟩⟩
      have b2 := b.2 z
      have a3 : (sD cs 0 7 (1, p + 1)).2.2 = p + 1 + 1 := (d7.2 b2.1).2
      have e2 : (pA cs (1, p + 1) 2).2.2.2.2 = (sD cs 0 7 (1, p + 1)).2.2 + 2 := b2.2
      rw [e2, a3]
      omega
    | 3 =>
      refine ⟨d7.1, fun z => ⟨q, ?_⟩⟩
      have e2 : (pA cs (1, p + 1) 3).2.2.2.2 = p + 1 + 1 := (d7.2 z).2
      rw [e2]
      omega
    | 4 =>
      have c := sS_gd h d7.1
      refine ⟨c.1, fun z => ⟨q, ?_⟩⟩
      have c2 := c.2 z
      have a3 : (sD cs 0 7 (1, p + 1)).2.2 = p + 1 + 1 := (d7.2 c2.1).2
      have e2 : (pA cs (1, p + 1) 4).2.2.2.2 = (sD cs 0 7 (1, p + 1)).2.2 + 1 := c2.2
      rw [e2, a3]
      omega
    | 5 =>
      have d5 := sD_gd (lo := 0) (hi := 5) h (by decide) g0
      have c := sF_gd h d5.1
      refine ⟨c.1, fun z => ⟨q, ?_⟩⟩
      have c2 := c.2 z
      have a3 : (sD cs 0 5 (1, p + 1)).2.2 = p + 1 + 1 := (d5.2 c2.1).2
      have e2 : (pA cs (1, p + 1) 5).2.2.2.2 = (sD cs 0 5 (1, p + 1)).2.2 + 4 := c2.2
      rw [e2, a3]
      omega
    | n + 6 =>
      have b := sT_gd (lo := 1) (hi := 99) h (by decide) g0
      refine ⟨b.1, fun z => ⟨q, ?_⟩⟩
      have e2 : (pA cs (1, p + 1) (n + 6)).2.2.2.2 = p + 1 + 2 := (b.2 z).2
      rw [e2]
      omega
end QS

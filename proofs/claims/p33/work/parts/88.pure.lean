/-! ### what else holds of a state: segments, holds, tables -/
def tblOK (x : LZ) (r : RZ) : Prop := (Rz_present r = 1 ∨ Rz_hasLeft r = 1) → Lz_first x ≤ Rz_place r → ∀ k : Nat, k < 8 → Rz_values r k = toldX x k (Rz_place r)
def sgOK (x : LZ) : Prop := ∀ j : Int, 0 ≤ j → j < Lz_begun x → Lz_lengthsBelow x (lnx x j).toNat - Lz_lengthsBelow x (Lz_starts x j.toNat).toNat ≤ 200
def KOK (σ : SZ) : Prop := sgOK (Sz_log σ) ∧ ∀ n : Nat, n < 8 → (Rz_held (Sz_readers σ n) = 1 → Rz_lostBy (Sz_readers σ n) = 0) ∧ tblOK (Sz_log σ) (Sz_readers σ n)
def GOK (σ : SZ) (T : Int) : Prop := SOK σ T ∧ KOK σ
section TL
variable {x y : LZ} {T : Int} {K V : Nat → Int} {key : Int}
theorem toldFn_split : ∀ (n m : Nat) (v i : Int), toldFn K V key (n + m) v i = toldFn K V key m (toldFn K V key n v i) (i + n) := by
  intro n
  induction n with
  | zero =>
    intro m v i
    rw [show i + ((0 : Nat) : Int) = i by omega, Nat.zero_add]
    rfl
  | succ n ih =>
    intro m v i
    rw [show n + 1 + m = (n + m) + 1 by omega]
    show toldFn K V key (n + m) (if K i.toNat = key then V i.toNat else v) (i + 1) = toldFn K V key m (toldFn K V key n (if K i.toNat = key then V i.toNat else v) (i + 1)) (i + ((n + 1 : Nat) : Int))
    rw [ih, show i + 1 + (n : Int) = i + ((n + 1 : Nat) : Int) by omega]
theorem dropFn_told : ∀ (n : Nat) (i : Int) (d : Nat → Int), (∀ m : Int, i ≤ m → m < i + n → 0 ≤ K m.toNat ∧ K m.toNat < 8) → ∀ k : Nat, k < 8 → dropFn K V n i d k = toldFn K V k n (d k) i := by
  intro n
  induction n with
  | zero => intro i d _ k _; rfl
  | succ n ih =>
    intro i d h k hk
    have g := h i (by omega) (by omega)
    show dropFn K V n (i + 1) (updz d (K i.toNat).toNat (V i.toNat)) k = toldFn K V k n (if K i.toNat = k then V i.toNat else d k) (i + 1)
    rw [ih (i + 1) _ (fun m a b => h m (by omega) (by omega)) k hk]
    by_cases q : K i.toNat = k
    · rw [if_pos q, show (K i.toNat).toNat = k by omega, updz_eq]
    · rw [if_neg q, updz_ne (by omega)]
theorem told_first : toldX x key (Lz_first x) = Lz_dropValues x key.toNat := by
  unfold toldX
  rw [Int.sub_self]
  rfl
theorem told_more {p n : Int} (h0 : Lz_first x ≤ p) (hn : 0 ≤ n) : toldX x key (p + n) = toldFn (Lz_keys x) (Lz_values x) key n.toNat (toldX x key p) p := by
  unfold toldX
  rw [show (p + n - Lz_first x).toNat = (p - Lz_first x).toNat + n.toNat by omega, toldFn_split, show Lz_first x + ((p - Lz_first x).toNat : Int) = p by omega]
theorem told_snoc {p : Int} (h0 : Lz_first x ≤ p) : toldX x key (p + 1) = if Lz_keys x p.toNat = key then Lz_values x p.toNat else toldX x key p := told_more (n := 1) h0 (by decide)
theorem back_told : ∀ (n : Nat) {p : Int}, p = Lz_first x + n → backFn (Lz_keys x) (Lz_values x) key (Lz_dropValues x key.toNat) n (p - 1) = toldX x key p := by
  intro n
  induction n with
  | zero =>
    intro p hp
    rw [show p = Lz_first x by omega, told_first]
    rfl
  | succ n ih =>
    intro p hp
    have e := told_snoc (x := x) (key := key) (p := p - 1) (by omega)
    rw [show p - 1 + 1 = p by omega] at e
    show (if Lz_keys x (p - 1).toNat = key then Lz_values x (p - 1).toNat else backFn (Lz_keys x) (Lz_values x) key (Lz_dropValues x key.toNat) n (p - 1 - 1)) = toldX x key p
    rw [e, ih (p := p - 1) (by omega)]
theorem back_eq {p : Int} (h : Lz_first x ≤ p) : backX x key p = toldX x key p := back_told (p - Lz_first x).toNat (by omega)
theorem told_add {key2 val len time p : Int} (h : LOK x T) (hp : p ≤ Lz_end x) : toldX (addX x key2 val len time) key p = toldX x key p := by
  have h1 := h.1
  refine toldFn_congr _ _ _ h1.1 (fun m a b => ?_)
  have a : Lz_first x ≤ m := a
  have b : m < Lz_first x + ((p - Lz_first x).toNat : Int) := b
  exact ⟨updz_ne (by omega), updz_ne (by omega)⟩
theorem told_drop {p : Int} (h : LOK x T) (h2 : 2 ≤ Lz_begun x - Lz_dropped x) (hk : 0 ≤ key ∧ key < 8) (hp : lnx x (Lz_dropped x) ≤ p) : toldX (dropX x) key p = toldX x key p := by
  have h1 := h.1
  have h3 := h.nx1 (j := Lz_dropped x) (by omega) (by omega)
  have h6 := (h.2.2.2.1 (by omega)).2.2.1
  have e := told_more (x := x) (key := key) (p := lnx x (Lz_dropped x)) (n := p - lnx x (Lz_dropped x)) (by omega) (by omega)
  rw [show lnx x (Lz_dropped x) + (p - lnx x (Lz_dropped x)) = p by omega] at e
  rw [e]
  show toldFn (Lz_keys x) (Lz_values x) key (p - lnx x (Lz_dropped x)).toNat (dropFn (Lz_keys x) (Lz_values x) (lnx x (Lz_dropped x) - Lz_first x).toNat (Lz_first x) (Lz_dropValues x) key.toNat) (lnx x (Lz_dropped x)) = _
  have g := dropFn_told (K := Lz_keys x) (V := Lz_values x) (lnx x (Lz_dropped x) - Lz_first x).toNat (Lz_first x) (Lz_dropValues x) (fun m a b => by have := h.2.2.2.2.1 m.toNat (by omega); omega) key.toNat (by omega)
  rw [g, show ((key.toNat : Nat) : Int) = key by omega]
  rfl
theorem sgOK.add {key val len time s0 s1 : Int} (h : LOK x T) (g : sgOK x) (hl : 1 ≤ len ∧ len ≤ 40) (hs : s1 ≤ 200) (o : ¬ opens x len s0 s1) : sgOK (addX x key val len time) := by
  have h1 := h.1
  have o1 : ¬ Lz_begun x = 0 := fun q => o (Or.inl q)
  have o3 : ¬ s1 < Lz_lengthsBelow x (Lz_end x).toNat - Lz_lengthsBelow x (Lz_starts x (Lz_begun x - 1).toNat).toNat + len := fun q => o (Or.inr (Or.inr q))
  intro j j0 j1
  have j1 : j < Lz_begun x := j1
  have a1 := h.st_end j0 j1
  have a2 := h.nx1 j0 j1
  show updz (Lz_lengthsBelow x) (Lz_end x + 1).toNat (Lz_lengthsBelow x (Lz_end x).toNat + len) (lnx (addX x key val len time) j).toNat - updz (Lz_lengthsBelow x) (Lz_end x + 1).toNat (Lz_lengthsBelow x (Lz_end x).toNat + len) (Lz_starts x j.toNat).toNat ≤ 200
  rw [updz_ne (by omega) (k := (Lz_end x + 1).toNat) (j := (Lz_starts x j.toNat).toNat)]
  by_cases q : j + 1 < Lz_begun x
  · have e : lnx (addX x key val len time) j = Lz_starts x (j + 1).toNat := if_pos q
    have e2 : lnx x j = Lz_starts x (j + 1).toNat := if_pos q
    have := g j j0 j1
    rw [e2] at this a2
    rw [e, updz_ne (by omega)]
    exact this
  · have e : lnx (addX x key val len time) j = Lz_end x + 1 := if_neg q
    rw [e, updz_eq, show j = Lz_begun x - 1 by omega]
    omega
theorem sgOK.openAdd {key val len time : Int} (h : LOK x T) (g : sgOK x) (hl : 1 ≤ len ∧ len ≤ 40) : sgOK (addX (openX x) key val len time) := by
  have h1 := h.1
  intro j j0 j1
  have j1 : j < Lz_begun x + 1 := j1
  show updz (Lz_lengthsBelow x) (Lz_end x + 1).toNat (Lz_lengthsBelow x (Lz_end x).toNat + len) (lnx (addX (openX x) key val len time) j).toNat - updz (Lz_lengthsBelow x) (Lz_end x + 1).toNat (Lz_lengthsBelow x (Lz_end x).toNat + len) (updz (Lz_starts x) (Lz_begun x).toNat (Lz_end x) j.toNat).toNat ≤ 200
  by_cases q : j = Lz_begun x
  · have e : lnx (addX (openX x) key val len time) j = Lz_end x + 1 := if_neg (by show ¬ j + 1 < Lz_begun x + 1; omega)
    rw [e, q, updz_eq, updz_eq, updz_ne (by omega)]
    omega
  · have j2 : j < Lz_begun x := by omega
    have a1 := h.st_end j0 j2
    have a2 := h.nx1 j0 j2
    have e : lnx (addX (openX x) key val len time) j = lnx x j := by
      have e1 : lnx (addX (openX x) key val len time) j = updz (Lz_starts x) (Lz_begun x).toNat (Lz_end x) (j + 1).toNat := if_pos (by show j + 1 < Lz_begun x + 1; omega)
      rw [e1]
      by_cases q2 : j + 1 < Lz_begun x
      · rw [updz_ne (by omega)]
        exact (if_pos q2).symm
      · rw [show j + 1 = Lz_begun x by omega, updz_eq]
        exact (if_neg q2).symm
    rw [e, updz_ne (by omega) (k := (Lz_begun x).toNat) (j := j.toNat), updz_ne (by omega), updz_ne (by omega)]
    exact g j j0 j2
end TL
section TS
variable {σ : SZ} {T : Int}
theorem KOK.seti {e : Nat} {r : RZ} (h : KOK σ) (h1 : Rz_held r = 1 → Rz_lostBy r = 0) (h2 : tblOK (Sz_log σ) r) : KOK (Sz_seti_readers σ e r) := by
  refine ⟨h.1, fun n hn => ?_⟩
  by_cases q : n = e
  · subst q
    rw [rd_eq]
    exact ⟨h1, h2⟩
  · rw [rd_ne q]
    exact h.2 n hn
theorem KOK.lsL {e : Nat} (h : KOK σ) (he : e < 8) : KOK (loseL σ e) := by
  refine ⟨h.1, fun n hn => ?_⟩
  by_cases q : n = e
  · subst q
    rw [loseL_e]
    exact ⟨fun c => absurd (show (0 : Int) = 1 from c) (by decide), (h.2 n hn).2⟩
  · rw [loseL_j q]
    exact h.2 n hn
theorem KOK.lsT {e : Nat} (h : KOK σ) (he : e < 8) : KOK (loseT σ e) := by
  refine ⟨h.1, fun n hn => ?_⟩
  by_cases q : n = e
  · subst q
    rw [loseT_e]
    exact ⟨fun c => absurd (show (0 : Int) = 1 from c) (by decide), (h.2 n hn).2⟩
  · rw [loseT_j q]
    exact h.2 n hn
theorem KOK.ck {e : Nat} (h : KOK σ) (he : e < 8) : KOK (chk σ e) := by
  unfold chk
  split
  · split
    · exact h.lsL he
    · split
      · exact h.lsT he
      · exact h
  · exact h
theorem KOK.ckAll (h : KOK σ) : ∀ n : Nat, n ≤ 8 → KOK (chkAll σ n)
  | 0, _ => h
  | n + 1, hn => KOK.ck (KOK.ckAll h n (by omega)) (by omega)
theorem KOK.dr (h : SOK σ T) (g : KOK σ) (hw : whyS σ = 0) : KOK (dropS σ) := by
  have h1 := h.1.1
  have h2 := whyS_segs hw
  have h3 := h.1.nx1 (j := Lz_dropped (Sz_log σ)) (by omega) (by omega)
  have h6 := (h.1.2.2.2.1 (by omega)).2.2.1
  refine ⟨g.1, fun n hn => ⟨(g.2 n hn).1, fun c p k hk => ?_⟩⟩
  have p : lnx (Sz_log σ) (Lz_dropped (Sz_log σ)) ≤ Rz_place (Sz_readers σ n) := p
  have e := (g.2 n hn).2 c (by omega) k hk
  show Rz_values (Sz_readers σ n) k = toldX (dropX (Sz_log σ)) k (Rz_place (Sz_readers σ n))
  rw [e, told_drop h.1 h2 (by omega) p]
theorem KOK.drAll : ∀ (n : Nat) {σ : SZ}, SOK σ T → KOK σ → KOK (dropAll n σ) := by
  intro n
  induction n with
  | zero => intro σ _ g; exact g
  | succ n ih =>
    intro σ h g
    show KOK (if whyS σ = 0 then dropAll n (dropS σ) else σ)
    split
    · rename_i q
      exact ih (h.dr q) (KOK.dr h g q)
    · exact g
theorem KOK.tick (h : SOK σ T) (hT : T + 1 ≤ 5000000) (g : KOK σ) : KOK (tickS σ) := by
  have h2 := h.2.1
  have g1 : KOK (Sz_set_time σ (Sz_time σ + 1)) := g
  exact KOK.drAll 200 (SOK.ckAll (h.time hT) (by show Sz_lostByLength σ + 8 ≤ 8 * (T + 1); omega) (by show Sz_lostBySleep σ + 8 ≤ 8 * (T + 1); omega) 8 (by omega)) (g1.ckAll 8 (by omega))
theorem KOK.ticks : ∀ (n : Nat) {σ : SZ} {T : Int}, SOK σ T → T + n ≤ 5000000 → KOK σ → KOK (ticksS n σ) := by
  intro n
  induction n with
  | zero => intro σ T _ _ g; exact g
  | succ n ih =>
    intro σ T h hT g
    exact ih (h.tick (by omega)) (by omega) (KOK.tick h (by omega) g)
theorem KOK.wr {key val len : Int} (h : SOK σ T) (g : KOK σ) (he : Lz_end (Sz_log σ) < 200) (hl : 1 ≤ len ∧ len ≤ 40) : KOK (wrS σ key val len) := by
  have h1 := h.1.1
  have hs := h.2.2.1.2.1
  refine ⟨?_, fun n hn => ⟨(g.2 n hn).1, fun c p k hk => ?_⟩⟩
  · show sgOK (addX (if opens (Sz_log σ) len (Sz_settings σ 0) (Sz_settings σ 1) then openX (Sz_log σ) else Sz_log σ) key val len (Sz_time σ))
    by_cases q : opens (Sz_log σ) len (Sz_settings σ 0) (Sz_settings σ 1)
    · rw [if_pos q]
      exact sgOK.openAdd h.1 g.1 hl
    · rw [if_neg q]
      exact sgOK.add h.1 g.1 hl hs.2 q
  · have hp := (h.2.2.2 n hn).2.2.2.2.1 c
    have ef : Lz_first (Sz_log (wrS σ key val len)) = Lz_first (Sz_log σ) := by
      show Lz_first (if opens (Sz_log σ) len (Sz_settings σ 0) (Sz_settings σ 1) then openX (Sz_log σ) else Sz_log σ) = _
      split <;> rfl
    rw [ef] at p
    have e := (g.2 n hn).2 c p k hk
    show Rz_values (Sz_readers σ n) k = toldX (addX (if opens (Sz_log σ) len (Sz_settings σ 0) (Sz_settings σ 1) then openX (Sz_log σ) else Sz_log σ) key val len (Sz_time σ)) k (Rz_place (Sz_readers σ n))
    rw [e]
    have e2 : ∀ y : LZ, Lz_first y = Lz_first (Sz_log σ) → Lz_end y = Lz_end (Sz_log σ) → Lz_keys y = Lz_keys (Sz_log σ) → Lz_values y = Lz_values (Sz_log σ) → Lz_dropValues y = Lz_dropValues (Sz_log σ) → toldX (Sz_log σ) k (Rz_place (Sz_readers σ n)) = toldX (addX y key val len (Sz_time σ)) k (Rz_place (Sz_readers σ n)) := by
      intro y y1 y2 y3 y4 y5
      rw [← told_add (key := (k : Int)) (key2 := key) (val := val) (len := len) (time := Sz_time σ) (p := Rz_place (Sz_readers σ n)) h.1 hp.2]
      unfold toldX addX
      rw [y1, y2, y3, y4, y5]
    split
    · exact e2 _ rfl rfl rfl rfl rfl
    · exact e2 _ rfl rfl rfl rfl rfl
theorem KOK.res {c : Nat} {a b d v : Int} {σ' : SZ} (h : SOK σ T) (hT : T + 99 ≤ 5000000) (g : KOK σ) (hv : valA c b d) (o : fltA σ c a b d = 0) (r : resA σ c a b d v σ') : KOK σ' := by
  have h1 := h.1.1
  match c with
  | 0 =>
    obtain ⟨r1, r2⟩ := r
    subst r2
    obtain ⟨⟨o1, o2, o3⟩, o4⟩ := ok0 o
    exact g.wr h o4 o3
  | 1 =>
    obtain ⟨vs, j, r2⟩ := r
    subst r2
    have o1 := (ok1 o).1
    refine g.seti (fun _ => rfl) (fun _ p k hk => ?_)
    have p : Lz_first (Sz_log σ) ≤ v := p
    show vs k = toldX (Sz_log σ) k v
    by_cases q0 : b = 0
    · obtain ⟨j1, j2⟩ := j.1 q0
      have a1 := j2 k (by omega) (by omega)
      rw [show ((k : Int)).toNat = k by omega] at a1
      rw [a1, j1, told_first, show ((k : Int)).toNat = k by omega]
    · by_cases q1 : b = 1
      · obtain ⟨j1, j2⟩ := j.2.1 q1
        have a1 := j2 k (by omega) (by omega)
        rw [show ((k : Int)).toNat = k by omega] at a1
        rw [a1, j1]
      · obtain ⟨j1, j2⟩ := j.2.2 q0 q1
        have o2 := (ok1 o).2.2
        have hl : Rz_hasLeft (Sz_readers σ a.toNat) = 1 := by
          rcases o2 with z | z
          · omega
          · exact z.1
        rw [j1] at p
        rw [j1, j2]
        exact (g.2 a.toNat (by omega)).2 (Or.inr hl) p k hk
  | 2 =>
    obtain ⟨⟨o1, o2⟩, o3⟩ := ok2 o
    have g5 := (h.2.2.2 a.toNat (by omega)).2.2.2.2.1 (Or.inl o2)
    have gk := g.2 a.toNat (by omega)
    rcases r with ⟨r0, r1, r2⟩ | ⟨r0, r1, vs, r3, r2⟩
    · have hm := zminZ_in (n := b) (m := Lz_end (Sz_log σ) - Rz_place (Sz_readers σ a.toNat)) (by omega) (by omega)
      rw [← r1] at r2 hm
      subst r2
      refine g.seti gk.1 (fun c p k hk => ?_)
      show dropFn (Lz_keys (Sz_log σ)) (Lz_values (Sz_log σ)) v.toNat (Rz_place (Sz_readers σ a.toNat)) (Rz_values (Sz_readers σ a.toNat)) k = toldX (Sz_log σ) k (Rz_place (Sz_readers σ a.toNat) + v)
      rw [told_more r0 hm.1, dropFn_told _ _ _ (fun m p1 p2 => by have := h.1.2.2.2.2.1 m.toNat (by omega); omega) k hk, gk.2 (Or.inl o2) r0 k hk]
    · subst r2
      have e1 : KOK (Sz_seti_readers σ a.toNat (vs, Rz_present (Sz_readers σ a.toNat), Rz_hasLeft (Sz_readers σ a.toNat), Rz_held (Sz_readers σ a.toNat), Lz_first (Sz_log σ), Rz_readSoFar (Sz_readers σ a.toNat), Rz_missedSoFar (Sz_readers σ a.toNat) + (Lz_first (Sz_log σ) - Rz_place (Sz_readers σ a.toNat)), Sz_time σ, Rz_lostBy (Sz_readers σ a.toNat))) := by
        refine g.seti gk.1 (fun c p k hk => ?_)
        have a1 := r3 k (by omega) (by omega)
        rw [show ((k : Int)).toNat = k by omega] at a1
        show vs k = toldX (Sz_log σ) k (Lz_first (Sz_log σ))
        rw [a1, told_first, show ((k : Int)).toNat = k by omega]
      exact e1
  | 3 =>
    obtain ⟨r1, r2⟩ := r
    subst r2
    have o3 := ok3 o
    exact g.seti (fun c => absurd (show (0 : Int) = 1 from c) (by decide)) (fun _ p k hk => (g.2 a.toNat (by omega)).2 (Or.inl o3.2) p k hk)
  | 4 =>
    obtain ⟨r1, r2⟩ := r
    subst r2
    have o4 := (ok4 o).1
    exact g.seti (fun _ => rfl) (fun _ p k hk => (g.2 a.toNat (by omega)).2 (Or.inl o4.2) p k hk)
  | 5 =>
    obtain ⟨r1, r2⟩ := r
    subst r2
    exact g
  | 6 =>
    obtain ⟨r1, r2⟩ := r
    subst r2
    have o6 := ok6 o
    exact g.ticks a.toNat h (by omega)
  | n + 7 => exact absurd r (by intro z; exact z)
theorem KOK.eq {x y : SZ} (h : SOK y T) (g : KOK y) (e : SEq x y) : KOK x := by
  have h1 := h.1.1
  refine ⟨fun j j0 j1 => ?_, fun n hn => ?_⟩
  · rw [e.1.1.2.2.2.1] at j1
    have a1 := h.1.st_end j0 j1
    have a2 := h.1.nx1 j0 j1
    rw [e.1.nx h.1 j0, (e.1.2.1 j.toNat (by omega)).2.2.2, e.1.2.2.1 _ (by omega), e.1.2.2.1 _ (by omega)]
    exact g.1 j j0 j1
  · have er := e.2.1 n hn
    obtain ⟨g1, g2⟩ := g.2 n hn
    refine ⟨by rw [er.held, er.lostBy]; exact g1, fun c p k hk => ?_⟩
    rw [er.present, er.hasLeft] at c
    have hp := (h.2.2.2 n hn).2.2.2.2.1 c
    rw [er.place, e.1.1.1] at p
    rw [er.1 k hk, er.place, e.1.told h.1 (by omega) (by omega) hp.2]
    exact g2 c p k hk
theorem FreshS.kok (h : FreshS σ) : KOK σ := by
  obtain ⟨⟨f1, f2, f3, f4, -⟩, f5, -⟩ := h
  refine ⟨fun j j0 j1 => absurd j1 (by omega), fun n hn => ?_⟩
  obtain ⟨g1, g2, g3⟩ := f5 n hn
  refine ⟨fun c => absurd c (by omega), fun c => ?_⟩
  rcases c with c | c
  · omega
  · omega
theorem GOK.res {c : Nat} {a b d v : Int} {σ' : SZ} (h : GOK σ T) (hT : T + 99 ≤ 5000000) (hv : valA c b d) (o : fltA σ c a b d = 0) (r : resA σ c a b d v σ') : GOK σ' (T + 99) := ⟨(h.1.res hT hv o r).1, h.2.res h.1 hT hv o r⟩
theorem GOK.eq {x y : SZ} (h : GOK y T) (e : SEq x y) : GOK x T := ⟨h.1.eq e, h.2.eq h.1 e⟩
theorem GOK.mono {T' : Int} (h : GOK σ T) (e : T ≤ T') (hT : T' ≤ 5000000) : GOK σ T' := ⟨h.1.mono e hT, h.2⟩
end TS

/-! ### states that are alike in what counts do alike -/
section CL
variable {x y : LZ} {T : Int}
theorem LEq.symm (e : LEq x y) : LEq y x := ⟨⟨e.1.1.symm, e.1.2.1.symm, e.1.2.2.1.symm, e.1.2.2.2.1.symm, e.1.2.2.2.2.symm⟩, fun i hi => ⟨(e.2.1 i hi).1.symm, (e.2.1 i hi).2.1.symm, (e.2.1 i hi).2.2.1.symm, (e.2.1 i hi).2.2.2.symm⟩, fun i hi => (e.2.2.1 i hi).symm, fun k hk => (e.2.2.2 k hk).symm⟩
theorem LEq.trans {u : LZ} (e : LEq x y) (f : LEq y u) : LEq x u := ⟨⟨e.1.1.trans f.1.1, e.1.2.1.trans f.1.2.1, e.1.2.2.1.trans f.1.2.2.1, e.1.2.2.2.1.trans f.1.2.2.2.1, e.1.2.2.2.2.trans f.1.2.2.2.2⟩, fun i hi => ⟨(e.2.1 i hi).1.trans (f.2.1 i hi).1, (e.2.1 i hi).2.1.trans (f.2.1 i hi).2.1, (e.2.1 i hi).2.2.1.trans (f.2.1 i hi).2.2.1, (e.2.1 i hi).2.2.2.trans (f.2.1 i hi).2.2.2⟩, fun i hi => (e.2.2.1 i hi).trans (f.2.2.1 i hi), fun k hk => (e.2.2.2 k hk).trans (f.2.2.2 k hk)⟩
theorem LEq.nx (h : LOK y T) (e : LEq x y) {j : Int} (h0 : 0 ≤ j) : lnx x j = lnx y j := by
  have h1 := h.1
  unfold lnx
  rw [e.1.2.2.2.1, e.1.2.1]
  split
  · exact (e.2.1 _ (by omega)).2.2.2
  · rfl
theorem LEq.lf (h : LOK y T) (e : LEq x y) {p : Int} (hp : p ≤ Lz_end y) : lenFrom x p = lenFrom y p := by
  have h1 := h.1
  unfold lenFrom
  rw [e.1.1, e.1.2.2.1, e.1.2.1]
  split
  · rfl
  · rw [e.2.2.1 _ (by omega), e.2.2.1 _ (by omega)]
theorem toldFn_congr {K V K2 V2 : Nat → Int} {key : Int} : ∀ (n : Nat) (v i : Int), 0 ≤ i → (∀ m : Int, i ≤ m → m < i + n → K m.toNat = K2 m.toNat ∧ V m.toNat = V2 m.toNat) → toldFn K V key n v i = toldFn K2 V2 key n v i := by
  intro n
  induction n with
  | zero => intro v i _ _; rfl
  | succ n ih =>
    intro v i h0 h
    have g := h i (by omega) (by omega)
    show toldFn K V key n (if K i.toNat = key then V i.toNat else v) (i + 1) = toldFn K2 V2 key n (if K2 i.toNat = key then V2 i.toNat else v) (i + 1)
    rw [g.1, g.2]
    exact ih _ _ (by omega) (fun m a b => h m (by omega) (by omega))
theorem LEq.told (h : LOK y T) (e : LEq x y) {k row : Int} (h0 : 0 ≤ k) (h1 : k < 8) (h2 : row ≤ Lz_end y) : toldX x k row = toldX y k row := by
  have h3 := h.1
  unfold toldX
  rw [e.1.1, e.2.2.2 k.toNat (by omega)]
  exact toldFn_congr _ _ _ h3.1 (fun m a b => by
    have := e.2.1 m.toNat (by omega)
    exact ⟨this.1, this.2.1⟩)
theorem dropFn_congr {K V K2 V2 : Nat → Int} : ∀ (n : Nat) (i : Int) (d d2 : Nat → Int), (∀ m : Int, i ≤ m → m < i + n → K m.toNat = K2 m.toNat ∧ V m.toNat = V2 m.toNat) → (∀ k : Nat, k < 8 → d k = d2 k) → ∀ k : Nat, k < 8 → dropFn K V n i d k = dropFn K2 V2 n i d2 k := by
  intro n
  induction n with
  | zero => intro i d d2 _ hd; exact hd
  | succ n ih =>
    intro i d d2 h hd
    have g := h i (by omega) (by omega)
    show ∀ k : Nat, k < 8 → dropFn K V n (i + 1) (updz d (K i.toNat).toNat (V i.toNat)) k = dropFn K2 V2 n (i + 1) (updz d2 (K2 i.toNat).toNat (V2 i.toNat)) k
    rw [g.1, g.2]
    refine ih (i + 1) _ _ (fun m a b => h m (by omega) (by omega)) (fun k hk => ?_)
    by_cases q : k = (K2 i.toNat).toNat
    · rw [q, updz_eq, updz_eq]
    · rw [updz_ne q, updz_ne q]
      exact hd k hk
theorem LEq.drop (h : LOK y T) (e : LEq x y) (h2 : 2 ≤ Lz_begun y - Lz_dropped y) : LEq (dropX x) (dropX y) := by
  have h1 := h.1
  have h3 := h.nx1 (j := Lz_dropped y) (by omega) (by omega)
  have el : lnx x (Lz_dropped x) = lnx y (Lz_dropped y) := by rw [e.1.2.2.2.2]; exact e.nx h h1.2.2.2.1
  refine ⟨⟨el, e.1.2.1, ?_, e.1.2.2.2.1, ?_⟩, e.2.1, e.2.2.1, ?_⟩
  · show Lz_length x - (Lz_lengthsBelow x (lnx x (Lz_dropped x)).toNat - Lz_lengthsBelow x (Lz_first x).toNat) = Lz_length y - (Lz_lengthsBelow y (lnx y (Lz_dropped y)).toNat - Lz_lengthsBelow y (Lz_first y).toNat)
    rw [el, e.1.1, e.1.2.2.1, e.2.2.1 _ (by omega), e.2.2.1 _ (by omega)]
  · show Lz_dropped x + 1 = Lz_dropped y + 1
    rw [e.1.2.2.2.2]
  · show ∀ k : Nat, k < 8 → dropFn (Lz_keys x) (Lz_values x) (lnx x (Lz_dropped x) - Lz_first x).toNat (Lz_first x) (Lz_dropValues x) k = dropFn (Lz_keys y) (Lz_values y) (lnx y (Lz_dropped y) - Lz_first y).toNat (Lz_first y) (Lz_dropValues y) k
    rw [el, e.1.1]
    exact dropFn_congr _ _ _ _ (fun m a b => by
      have := e.2.1 m.toNat (by omega)
      exact ⟨this.1, this.2.1⟩) e.2.2.2
theorem LEq.ops (h : LOK y T) (e : LEq x y) {len s0 s1 : Int} : opens x len s0 s1 ↔ opens y len s0 s1 := by
  have h1 := h.1
  by_cases q : Lz_begun y = 0
  · exact ⟨fun _ => Or.inl q, fun _ => Or.inl (e.1.2.2.2.1.trans q)⟩
  · have h2 := h.st_end (j := Lz_begun y - 1) (by omega) (by omega)
    show (Lz_begun x = 0 ∨ s0 ≤ Lz_end x - Lz_starts x (Lz_begun x - 1).toNat ∨ s1 < Lz_lengthsBelow x (Lz_end x).toNat - Lz_lengthsBelow x (Lz_starts x (Lz_begun x - 1).toNat).toNat + len) ↔ (Lz_begun y = 0 ∨ s0 ≤ Lz_end y - Lz_starts y (Lz_begun y - 1).toNat ∨ s1 < Lz_lengthsBelow y (Lz_end y).toNat - Lz_lengthsBelow y (Lz_starts y (Lz_begun y - 1).toNat).toNat + len)
    rw [e.1.2.2.2.1, e.1.2.1, (e.2.1 (Lz_begun y - 1).toNat (by omega)).2.2.2, e.2.2.1 _ (by omega), e.2.2.1 _ (by omega)]
theorem upd_congr {f g : Nat → Int} {N k k2 : Nat} {v v2 : Int} (h : ∀ i : Nat, i < N → f i = g i) (hk : k = k2) (hv : v = v2) : ∀ i : Nat, i < N → updz f k v i = updz g k2 v2 i := by
  intro i hi
  subst hk; subst hv
  by_cases q : i = k
  · rw [q, updz_eq, updz_eq]
  · rw [updz_ne q, updz_ne q]
    exact h i hi
theorem LEq.opnd (e : LEq x y) : LEq (openX x) (openX y) := by
  refine ⟨⟨e.1.1, e.1.2.1, e.1.2.2.1, ?_, e.1.2.2.2.2⟩, fun i hi => ⟨(e.2.1 i hi).1, (e.2.1 i hi).2.1, (e.2.1 i hi).2.2.1, ?_⟩, e.2.2.1, e.2.2.2⟩
  · show Lz_begun x + 1 = Lz_begun y + 1
    rw [e.1.2.2.2.1]
  · exact upd_congr (N := 200) (fun i hi => (e.2.1 i hi).2.2.2) (by rw [e.1.2.2.2.1]) e.1.2.1 i hi
theorem LEq.add {key val len time : Int} (e : LEq x y) (he : 0 ≤ Lz_end y ∧ Lz_end y ≤ 200) : LEq (addX x key val len time) (addX y key val len time) := by
  have e1 := e.1.2.1
  refine ⟨⟨e.1.1, ?_, ?_, e.1.2.2.2.1, e.1.2.2.2.2⟩, fun i hi => ⟨?_, ?_, ?_, (e.2.1 i hi).2.2.2⟩, ?_, e.2.2.2⟩
  · show Lz_end x + 1 = Lz_end y + 1
    rw [e1]
  · show Lz_length x + len = Lz_length y + len
    rw [e.1.2.2.1]
  · exact upd_congr (N := 200) (fun i hi => (e.2.1 i hi).1) (by rw [e1]) rfl i hi
  · exact upd_congr (N := 200) (fun i hi => (e.2.1 i hi).2.1) (by rw [e1]) rfl i hi
  · exact upd_congr (N := 200) (fun i hi => (e.2.1 i hi).2.2.1) (by rw [e1]) rfl i hi
  · exact upd_congr (N := 201) e.2.2.1 (by rw [e1]) (by rw [e1, e.2.2.1 _ (by omega)])
end CL
section CS
variable {x y : SZ} {T : Int}
theorem REq.symm {r s : RZ} (h : REq r s) : REq s r := ⟨fun k hk => (h.1 k hk).symm, h.2.symm⟩
theorem REq.trans {r s t : RZ} (h : REq r s) (g : REq s t) : REq r t := ⟨fun k hk => (h.1 k hk).trans (g.1 k hk), h.2.trans g.2⟩
theorem SEq.symm (e : SEq x y) : SEq y x := ⟨e.1.symm, fun n hn => (e.2.1 n hn).symm, fun k hk => (e.2.2.1 k hk).symm, e.2.2.2.symm⟩
theorem SEq.trans {u : SZ} (e : SEq x y) (f : SEq y u) : SEq x u := ⟨e.1.trans f.1, fun n hn => (e.2.1 n hn).trans (f.2.1 n hn), fun k hk => (e.2.2.1 k hk).trans (f.2.2.1 k hk), e.2.2.2.trans f.2.2.2⟩
theorem REq.present {r s : RZ} (h : REq r s) : Rz_present r = Rz_present s := congrArg (fun q => q.1) h.2
theorem REq.hasLeft {r s : RZ} (h : REq r s) : Rz_hasLeft r = Rz_hasLeft s := congrArg (fun q => q.2.1) h.2
theorem REq.held {r s : RZ} (h : REq r s) : Rz_held r = Rz_held s := congrArg (fun q => q.2.2.1) h.2
theorem REq.place {r s : RZ} (h : REq r s) : Rz_place r = Rz_place s := congrArg (fun q => q.2.2.2.1) h.2
theorem REq.readSoFar {r s : RZ} (h : REq r s) : Rz_readSoFar r = Rz_readSoFar s := congrArg (fun q => q.2.2.2.2.1) h.2
theorem REq.missedSoFar {r s : RZ} (h : REq r s) : Rz_missedSoFar r = Rz_missedSoFar s := congrArg (fun q => q.2.2.2.2.2.1) h.2
theorem REq.lastRead {r s : RZ} (h : REq r s) : Rz_lastRead r = Rz_lastRead s := congrArg (fun q => q.2.2.2.2.2.2.1) h.2
theorem REq.lostBy {r s : RZ} (h : REq r s) : Rz_lostBy r = Rz_lostBy s := congrArg (fun q => q.2.2.2.2.2.2.2) h.2
theorem SEq.time (e : SEq x y) : Sz_time x = Sz_time y := congrArg (fun q => q.1) e.2.2.2
theorem SEq.lbl (e : SEq x y) : Sz_lostByLength x = Sz_lostByLength y := congrArg (fun q => q.2.1) e.2.2.2
theorem SEq.lbs (e : SEq x y) : Sz_lostBySleep x = Sz_lostBySleep y := congrArg (fun q => q.2.2.1) e.2.2.2
theorem SEq.missed (e : SEq x y) : Sz_missed x = Sz_missed y := congrArg (fun q => q.2.2.2) e.2.2.2
theorem SEq.seti {e : Nat} {r s : RZ} (h : SEq x y) (hr : REq r s) : SEq (Sz_seti_readers x e r) (Sz_seti_readers y e s) := by
  refine ⟨h.1, fun n hn => ?_, h.2.2.1, h.2.2.2⟩
  by_cases q : n = e
  · subst q
    rw [rd_eq, rd_eq]
    exact hr
  · rw [rd_ne q, rd_ne q]
    exact h.2.1 n hn
theorem SEq.hol (h : SEq x y) {row : Int} : holders x row = holders y row := sumN_congr 8 (fun i hi => by
  have g := h.2.1 i hi
  show (if _ then _ else _ : Int) = (if _ then _ else _ : Int)
  rw [g.held, g.place])
theorem SEq.rdN (h : SEq x y) : readersN x = readersN y := sumN_congr 8 (fun i hi => by
  have g := h.2.1 i hi
  show (if _ then _ else _ : Int) = (if _ then _ else _ : Int)
  rw [g.present])
theorem SEq.gaps (h : SEq x y) : sumN (gz x) 8 = sumN (gz y) 8 := sumN_congr 8 (fun i hi => by
  have g := h.2.1 i hi
  show (if _ then _ else _ : Int) = (if _ then _ else _ : Int)
  rw [g.present, g.place, h.1.1.1])
theorem SEq.due (h : SEq x y) {row : Int} (h0 : row < 200) : dueS x row ↔ dueS y row := by
  show (Sz_settings x 3 < Lz_length (Sz_log x) ∨ (0 < Sz_settings x 2 ∧ Sz_settings x 2 ≤ Sz_time x - Lz_times (Sz_log x) row.toNat)) ↔ (Sz_settings y 3 < Lz_length (Sz_log y) ∨ (0 < Sz_settings y 2 ∧ Sz_settings y 2 ≤ Sz_time y - Lz_times (Sz_log y) row.toNat))
  rw [h.2.2.1 3 (by omega), h.2.2.1 2 (by omega), h.1.1.2.2.1, h.time, (h.1.2.1 row.toNat (by omega)).2.2.1]
theorem ite_iff {P Q : Prop} [Decidable P] [Decidable Q] {α : Type} (h : P ↔ Q) {a b : α} : (if P then a else b) = (if Q then a else b) := by
  by_cases q : Q
  · rw [if_pos q, if_pos (h.mpr q)]
  · rw [if_neg q, if_neg (fun k => q (h.mp k))]
theorem SEq.why (h : SOK y T) (e : SEq x y) : whyS x = whyS y := by
  have h1 := h.1.1
  unfold whyS
  rw [e.1.1.2.2.2.1, e.1.1.2.2.2.2]
  by_cases q : Lz_begun (Sz_log y) - Lz_dropped (Sz_log y) < 2
  · rw [if_pos q, if_pos q]
  · rw [if_neg q, if_neg q]
    have h3 := h.1.nx1 (j := Lz_dropped (Sz_log y)) (by omega) (by omega)
    rw [e.1.nx h.1 h1.2.2.2.1, e.hol]
    exact ite_iff (not_congr (e.due (by omega)))
theorem SEq.lsL (e : SEq x y) {n : Nat} (hn : n < 8) : SEq (loseL x n) (loseL y n) := by
  refine ⟨e.1, fun j hj => ?_, e.2.2.1, ?_⟩
  · by_cases q : j = n
    · subst q
      rw [loseL_e, loseL_e]
      have g := e.2.1 j hj
      refine ⟨g.1, ?_⟩
      show (Rz_present (Sz_readers x j), Rz_hasLeft (Sz_readers x j), (0 : Int), Rz_place (Sz_readers x j), Rz_readSoFar (Sz_readers x j), Rz_missedSoFar (Sz_readers x j), Rz_lastRead (Sz_readers x j), (1 : Int)) = (Rz_present (Sz_readers y j), Rz_hasLeft (Sz_readers y j), (0 : Int), Rz_place (Sz_readers y j), Rz_readSoFar (Sz_readers y j), Rz_missedSoFar (Sz_readers y j), Rz_lastRead (Sz_readers y j), (1 : Int))
      rw [g.present, g.hasLeft, g.place, g.readSoFar, g.missedSoFar, g.lastRead]
    · rw [loseL_j q, loseL_j q]
      exact e.2.1 j hj
  · show (Sz_time x, Sz_lostByLength x + 1, Sz_lostBySleep x, Sz_missed x) = (Sz_time y, Sz_lostByLength y + 1, Sz_lostBySleep y, Sz_missed y)
    rw [e.time, e.lbl, e.lbs, e.missed]
theorem SEq.lsT (e : SEq x y) {n : Nat} (hn : n < 8) : SEq (loseT x n) (loseT y n) := by
  refine ⟨e.1, fun j hj => ?_, e.2.2.1, ?_⟩
  · by_cases q : j = n
    · subst q
      rw [loseT_e, loseT_e]
      have g := e.2.1 j hj
      refine ⟨g.1, ?_⟩
      show (Rz_present (Sz_readers x j), Rz_hasLeft (Sz_readers x j), (0 : Int), Rz_place (Sz_readers x j), Rz_readSoFar (Sz_readers x j), Rz_missedSoFar (Sz_readers x j), Rz_lastRead (Sz_readers x j), (2 : Int)) = (Rz_present (Sz_readers y j), Rz_hasLeft (Sz_readers y j), (0 : Int), Rz_place (Sz_readers y j), Rz_readSoFar (Sz_readers y j), Rz_missedSoFar (Sz_readers y j), Rz_lastRead (Sz_readers y j), (2 : Int))
      rw [g.present, g.hasLeft, g.place, g.readSoFar, g.missedSoFar, g.lastRead]
    · rw [loseT_j q, loseT_j q]
      exact e.2.1 j hj
  · show (Sz_time x, Sz_lostByLength x, Sz_lostBySleep x + 1, Sz_missed x) = (Sz_time y, Sz_lostByLength y, Sz_lostBySleep y + 1, Sz_missed y)
    rw [e.time, e.lbl, e.lbs, e.missed]
theorem SEq.ck (h : SOK y T) (e : SEq x y) {n : Nat} (hn : n < 8) : SEq (chk x n) (chk y n) := by
  have g := e.2.1 n hn
  have h3 := h.2.2.2 n hn
  unfold chk
  rw [g.held]
  by_cases q : Rz_held (Sz_readers y n) = 1
  · rw [if_pos q, if_pos q]
    have h4 := h3.2.2.2.2.1 (Or.inl (h3.2.2.2.1 q).1)
    have l1 : (0 < Sz_settings x 4 ∧ Sz_settings x 4 < lenFrom (Sz_log x) (Rz_place (Sz_readers x n))) ↔ (0 < Sz_settings y 4 ∧ Sz_settings y 4 < lenFrom (Sz_log y) (Rz_place (Sz_readers y n))) := by
      rw [e.2.2.1 4 (by omega), g.place, e.1.lf h.1 h4.2]
    have l2 : (0 < Sz_settings x 5 ∧ Sz_settings x 5 ≤ Sz_time x - Rz_lastRead (Sz_readers x n)) ↔ (0 < Sz_settings y 5 ∧ Sz_settings y 5 ≤ Sz_time y - Rz_lastRead (Sz_readers y n)) := by
      rw [e.2.2.1 5 (by omega), e.time, g.lastRead]
    by_cases q2 : 0 < Sz_settings y 4 ∧ Sz_settings y 4 < lenFrom (Sz_log y) (Rz_place (Sz_readers y n))
    · rw [if_pos q2, if_pos (l1.mpr q2)]
      exact e.lsL hn
    · rw [if_neg q2, if_neg (fun k => q2 (l1.mp k))]
      by_cases q3 : 0 < Sz_settings y 5 ∧ Sz_settings y 5 ≤ Sz_time y - Rz_lastRead (Sz_readers y n)
      · rw [if_pos q3, if_pos (l2.mpr q3)]
        exact e.lsT hn
      · rw [if_neg q3, if_neg (fun k => q3 (l2.mp k))]
        exact e
  · rw [if_neg q, if_neg q]
    exact e
theorem SEq.ckAll (h : SOK y T) (hb : Sz_lostByLength y + 8 ≤ 8 * T) (hc : Sz_lostBySleep y + 8 ≤ 8 * T) (e : SEq x y) : ∀ n : Nat, n ≤ 8 → SEq (chkAll x n) (chkAll y n)
  | 0, _ => e
  | n + 1, hn => SEq.ck (h.ckAll hb hc n (by omega)) (SEq.ckAll h hb hc e n (by omega)) (by omega)
theorem SEq.dr (h : SOK y T) (e : SEq x y) (hw : whyS y = 0) : SEq (dropS x) (dropS y) := ⟨e.1.drop h.1 (whyS_segs hw), e.2.1, e.2.2.1, e.2.2.2⟩
theorem SEq.drAll : ∀ (n : Nat) {x y : SZ}, SOK y T → SEq x y → SEq (dropAll n x) (dropAll n y) := by
  intro n
  induction n with
  | zero => intro x y _ e; exact e
  | succ n ih =>
    intro x y h e
    show SEq (if whyS x = 0 then dropAll n (dropS x) else x) (if whyS y = 0 then dropAll n (dropS y) else y)
    rw [e.why h]
    by_cases q : whyS y = 0
    · rw [if_pos q, if_pos q]
      exact ih (h.dr q) (e.dr h q)
    · rw [if_neg q, if_neg q]
      exact e
theorem SEq.tmS (e : SEq x y) : SEq (Sz_set_time x (Sz_time x + 1)) (Sz_set_time y (Sz_time y + 1)) := by
  refine ⟨e.1, e.2.1, e.2.2.1, ?_⟩
  show (Sz_time x + 1, Sz_lostByLength x, Sz_lostBySleep x, Sz_missed x) = (Sz_time y + 1, Sz_lostByLength y, Sz_lostBySleep y, Sz_missed y)
  rw [e.time, e.lbl, e.lbs, e.missed]
theorem SEq.tick (h : SOK y T) (hT : T + 1 ≤ 5000000) (e : SEq x y) : SEq (tickS x) (tickS y) := by
  have h2 := h.2.1
  have b1 : Sz_lostByLength y + 8 ≤ 8 * (T + 1) := by omega
  have b2 : Sz_lostBySleep y + 8 ≤ 8 * (T + 1) := by omega
  exact SEq.drAll 200 ((h.time hT).ckAll b1 b2 8 (by omega)) (SEq.ckAll (h.time hT) b1 b2 e.tmS 8 (by omega))
theorem SEq.ticks : ∀ (n : Nat) {x y : SZ} {T : Int}, SOK y T → T + n ≤ 5000000 → SEq x y → SEq (ticksS n x) (ticksS n y) := by
  intro n
  induction n with
  | zero => intro x y T _ _ e; exact e
  | succ n ih =>
    intro x y T h hT e
    exact ih (h.tick (by omega)) (by omega) (e.tick h (by omega))
theorem SEq.wr {key val len : Int} (h : SOK y T) (e : SEq x y) : SEq (wrS x key val len) (wrS y key val len) := by
  have h1 := h.1.1
  refine ⟨?_, e.2.1, e.2.2.1, e.2.2.2⟩
  show LEq (addX (if opens (Sz_log x) len (Sz_settings x 0) (Sz_settings x 1) then openX (Sz_log x) else Sz_log x) key val len (Sz_time x)) (addX (if opens (Sz_log y) len (Sz_settings y 0) (Sz_settings y 1) then openX (Sz_log y) else Sz_log y) key val len (Sz_time y))
  rw [e.time, e.2.2.1 0 (by omega), e.2.2.1 1 (by omega)]
  by_cases q : opens (Sz_log y) len (Sz_settings y 0) (Sz_settings y 1)
  · rw [if_pos q, if_pos ((e.1.ops h.1).mpr q)]
    exact e.1.opnd.add ⟨by show 0 ≤ Lz_end (Sz_log y); omega, h1.2.2.1⟩
  · rw [if_neg q, if_neg (fun k => q ((e.1.ops h.1).mp k))]
    exact e.1.add ⟨by omega, h1.2.2.1⟩
theorem SEq.flt (e : SEq x y) {c : Nat} {a b d : Int} (hc : c < 7) : fltA x c a b d = fltA y c a b d := by
  have hr : ∀ a : Int, isR x a ↔ isR y a := fun a => by
    constructor
    · rintro ⟨h0, h1⟩
      exact ⟨h0, ((e.2.1 a.toNat (by omega)).present).symm.trans h1⟩
    · rintro ⟨h0, h1⟩
      exact ⟨h0, ((e.2.1 a.toNat (by omega)).present).trans h1⟩
  match c, hc with
  | 0, _ =>
    show (if rowP a b d then (if 200 ≤ Lz_end (Sz_log x) then 3 else 0) else 2 : Int) = (if rowP a b d then (if 200 ≤ Lz_end (Sz_log y) then 3 else 0) else 2)
    rw [e.1.1.2.1]
  | 1, _ =>
    show (if (0 ≤ a ∧ a < 8) ∧ (0 ≤ b ∧ b ≤ 2) then (if canJP x a b d then 0 else 3) else 2 : Int) = (if (0 ≤ a ∧ a < 8) ∧ (0 ≤ b ∧ b ≤ 2) then (if canJP y a b d then 0 else 3) else 2)
    by_cases q : (0 ≤ a ∧ a < 8) ∧ (0 ≤ b ∧ b ≤ 2)
    · rw [if_pos q, if_pos q]
      have g := e.2.1 a.toNat (by omega)
      refine ite_iff ?_
      show (Rz_present (Sz_readers x a.toNat) = 0 ∧ (b < 2 ∨ (Rz_hasLeft (Sz_readers x a.toNat) = 1 ∧ (d = 0 ∨ ¬ Rz_place (Sz_readers x a.toNat) < Lz_first (Sz_log x))))) ↔ (Rz_present (Sz_readers y a.toNat) = 0 ∧ (b < 2 ∨ (Rz_hasLeft (Sz_readers y a.toNat) = 1 ∧ (d = 0 ∨ ¬ Rz_place (Sz_readers y a.toNat) < Lz_first (Sz_log y)))))
      rw [g.present, g.hasLeft, g.place, e.1.1.1]
    · rw [if_neg q, if_neg q]
  | 2, _ => exact ite_iff (hr a)
  | 3, _ => exact ite_iff (hr a)
  | 4, _ =>
    show (if isR x a then (if b = 1 ∧ Rz_place (Sz_readers x a.toNat) < Lz_first (Sz_log x) then 3 else 0) else 1 : Int) = (if isR y a then (if b = 1 ∧ Rz_place (Sz_readers y a.toNat) < Lz_first (Sz_log y) then 3 else 0) else 1)
    by_cases q : isR y a
    · rw [if_pos q, if_pos ((hr a).mpr q)]
      have g := e.2.1 a.toNat (by omega)
      refine ite_iff ?_
      rw [g.place, e.1.1.1]
    · rw [if_neg q, if_neg (fun k => q ((hr a).mp k))]
  | 5, _ => rfl
  | 6, _ => rfl
theorem SEq.res {c : Nat} {a b d v w : Int} {x' y' : SZ} (h : SOK y T) (hT : T + 99 ≤ 5000000) (e : SEq x y) (hv : valA c b d) (o : fltA y c a b d = 0) (r : resA x c a b d v x') (s : resA y c a b d w y') : v = w ∧ SEq x' y' := by
  have h1 := h.1.1
  match c with
  | 0 =>
    obtain ⟨r1, r2⟩ := r
    obtain ⟨s1, s2⟩ := s
    subst r1 r2 s1 s2
    exact ⟨e.1.1.2.1, e.wr h⟩
  | 1 =>
    obtain ⟨vs, j, r2⟩ := r
    obtain ⟨ws, i, s2⟩ := s
    subst r2 s2
    have o1 := (ok1 o).1
    have g := e.2.1 a.toNat (by omega)
    have key : v = w ∧ ∀ k : Nat, k < 8 → vs k = ws k := by
      by_cases q0 : b = 0
      · obtain ⟨j1, j2⟩ := j.1 q0
        obtain ⟨i1, i2⟩ := i.1 q0
        refine ⟨by rw [j1, i1, e.1.1.1], fun k hk => ?_⟩
        have a1 := j2 k (by omega) (by omega)
        have a2 := i2 k (by omega) (by omega)
        rw [show ((k : Int)).toNat = k by omega] at a1 a2
        rw [a1, a2, e.1.2.2.2 k hk]
      · by_cases q1 : b = 1
        · obtain ⟨j1, j2⟩ := j.2.1 q1
          obtain ⟨i1, i2⟩ := i.2.1 q1
          refine ⟨by rw [j1, i1, e.1.1.2.1], fun k hk => ?_⟩
          have a1 := j2 k (by omega) (by omega)
          have a2 := i2 k (by omega) (by omega)
          rw [show ((k : Int)).toNat = k by omega] at a1 a2
          rw [a1, a2, e.1.1.2.1]
          exact e.1.told h.1 (by omega) (by omega) (Int.le_refl _)
        · obtain ⟨j1, j2⟩ := j.2.2 q0 q1
          obtain ⟨i1, i2⟩ := i.2.2 q0 q1
          refine ⟨by rw [j1, i1, g.place], fun k hk => ?_⟩
          rw [j2, i2]
          exact g.1 k hk
    refine ⟨key.1, e.seti ⟨key.2, ?_⟩⟩
    show ((1 : Int), Rz_hasLeft (Sz_readers x a.toNat), d, v, (0 : Int), (0 : Int), Sz_time x, (0 : Int)) = ((1 : Int), Rz_hasLeft (Sz_readers y a.toNat), d, w, (0 : Int), (0 : Int), Sz_time y, (0 : Int))
    rw [g.hasLeft, e.time, key.1]
  | 2 =>
    obtain ⟨⟨o1, o2⟩, o3⟩ := ok2 o
    have g := e.2.1 a.toNat (by omega)
    have g5 := (h.2.2.2 a.toNat (by omega)).2.2.2.2.1 (Or.inl o2)
    rcases r with ⟨r0, r1, r2⟩ | ⟨r0, r1, vs, r3, r2⟩
    · rcases s with ⟨s0, s1, s2⟩ | ⟨s0, s1, ws, s3, s2⟩
      · have ev : v = w := by rw [r1, s1, g.place, e.1.1.2.1]
        have hm := zminZ_in (n := b) (m := Lz_end (Sz_log y) - Rz_place (Sz_readers y a.toNat)) (by omega) (by omega)
        rw [← r1] at r2
        rw [← s1] at s2
        rw [← s1] at hm
        subst r2 s2
        subst ev
        refine ⟨rfl, e.seti ⟨?_, ?_⟩⟩
        · show ∀ k : Nat, k < 8 → dropFn (Lz_keys (Sz_log x)) (Lz_values (Sz_log x)) v.toNat (Rz_place (Sz_readers x a.toNat)) (Rz_values (Sz_readers x a.toNat)) k = dropFn (Lz_keys (Sz_log y)) (Lz_values (Sz_log y)) v.toNat (Rz_place (Sz_readers y a.toNat)) (Rz_values (Sz_readers y a.toNat)) k
          rw [g.place]
          exact dropFn_congr _ _ _ _ (fun m p1 p2 => by
            have := e.1.2.1 m.toNat (by omega)
            exact ⟨this.1, this.2.1⟩) g.1
        · show (Rz_present (Sz_readers x a.toNat), Rz_hasLeft (Sz_readers x a.toNat), Rz_held (Sz_readers x a.toNat), Rz_place (Sz_readers x a.toNat) + v, Rz_readSoFar (Sz_readers x a.toNat) + v, Rz_missedSoFar (Sz_readers x a.toNat), Sz_time x, Rz_lostBy (Sz_readers x a.toNat)) = (Rz_present (Sz_readers y a.toNat), Rz_hasLeft (Sz_readers y a.toNat), Rz_held (Sz_readers y a.toNat), Rz_place (Sz_readers y a.toNat) + v, Rz_readSoFar (Sz_readers y a.toNat) + v, Rz_missedSoFar (Sz_readers y a.toNat), Sz_time y, Rz_lostBy (Sz_readers y a.toNat))
          rw [g.present, g.hasLeft, g.held, g.place, g.readSoFar, g.missedSoFar, g.lostBy, e.time]
      · exfalso
        rw [g.place, e.1.1.1] at r0
        omega
    · rcases s with ⟨s0, s1, s2⟩ | ⟨s0, s1, ws, s3, s2⟩
      · exfalso
        rw [g.place, e.1.1.1] at r0
        omega
      · subst r2 s2
        refine ⟨by rw [r1, s1, g.place, e.1.1.1], ?_⟩
        have e1 : SEq (Sz_seti_readers x a.toNat (vs, Rz_present (Sz_readers x a.toNat), Rz_hasLeft (Sz_readers x a.toNat), Rz_held (Sz_readers x a.toNat), Lz_first (Sz_log x), Rz_readSoFar (Sz_readers x a.toNat), Rz_missedSoFar (Sz_readers x a.toNat) + (Lz_first (Sz_log x) - Rz_place (Sz_readers x a.toNat)), Sz_time x, Rz_lostBy (Sz_readers x a.toNat))) (Sz_seti_readers y a.toNat (ws, Rz_present (Sz_readers y a.toNat), Rz_hasLeft (Sz_readers y a.toNat), Rz_held (Sz_readers y a.toNat), Lz_first (Sz_log y), Rz_readSoFar (Sz_readers y a.toNat), Rz_missedSoFar (Sz_readers y a.toNat) + (Lz_first (Sz_log y) - Rz_place (Sz_readers y a.toNat)), Sz_time y, Rz_lostBy (Sz_readers y a.toNat))) := by
          refine e.seti ⟨fun k hk => ?_, ?_⟩
          · have a1 := r3 k (by omega) (by omega)
            have a2 := s3 k (by omega) (by omega)
            rw [show ((k : Int)).toNat = k by omega] at a1 a2
            show vs k = ws k
            rw [a1, a2, e.1.2.2.2 k hk]
          · show (Rz_present (Sz_readers x a.toNat), Rz_hasLeft (Sz_readers x a.toNat), Rz_held (Sz_readers x a.toNat), Lz_first (Sz_log x), Rz_readSoFar (Sz_readers x a.toNat), Rz_missedSoFar (Sz_readers x a.toNat) + (Lz_first (Sz_log x) - Rz_place (Sz_readers x a.toNat)), Sz_time x, Rz_lostBy (Sz_readers x a.toNat)) = (Rz_present (Sz_readers y a.toNat), Rz_hasLeft (Sz_readers y a.toNat), Rz_held (Sz_readers y a.toNat), Lz_first (Sz_log y), Rz_readSoFar (Sz_readers y a.toNat), Rz_missedSoFar (Sz_readers y a.toNat) + (Lz_first (Sz_log y) - Rz_place (Sz_readers y a.toNat)), Sz_time y, Rz_lostBy (Sz_readers y a.toNat))
            rw [g.present, g.hasLeft, g.held, g.place, g.readSoFar, g.missedSoFar, g.lostBy, e.time, e.1.1.1]
        refine ⟨e1.1, e1.2.1, e1.2.2.1, ?_⟩
        show (Sz_time x, Sz_lostByLength x, Sz_lostBySleep x, Sz_missed x + (Lz_first (Sz_log x) - Rz_place (Sz_readers x a.toNat))) = (Sz_time y, Sz_lostByLength y, Sz_lostBySleep y, Sz_missed y + (Lz_first (Sz_log y) - Rz_place (Sz_readers y a.toNat)))
        rw [e.time, e.lbl, e.lbs, e.missed, e.1.1.1, g.place]
  | 3 =>
    obtain ⟨r1, r2⟩ := r
    obtain ⟨s1, s2⟩ := s
    have g := e.2.1 a.toNat (by have := ok3 o; omega)
    have e1 : SEq (lvS x a.toNat) (lvS y a.toNat) := by
      refine e.seti ⟨g.1, ?_⟩
      show ((0 : Int), (1 : Int), (0 : Int), Rz_place (Sz_readers x a.toNat), Rz_readSoFar (Sz_readers x a.toNat), Rz_missedSoFar (Sz_readers x a.toNat), Rz_lastRead (Sz_readers x a.toNat), Rz_lostBy (Sz_readers x a.toNat)) = ((0 : Int), (1 : Int), (0 : Int), Rz_place (Sz_readers y a.toNat), Rz_readSoFar (Sz_readers y a.toNat), Rz_missedSoFar (Sz_readers y a.toNat), Rz_lastRead (Sz_readers y a.toNat), Rz_lostBy (Sz_readers y a.toNat))
      rw [g.place, g.readSoFar, g.missedSoFar, g.lastRead, g.lostBy]
    rw [r1, s1, r2, s2]
    exact ⟨e1.rdN, e1⟩
  | 4 =>
    obtain ⟨r1, r2⟩ := r
    obtain ⟨s1, s2⟩ := s
    have g := e.2.1 a.toNat (by have := (ok4 o).1; omega)
    rw [r1, s1, r2, s2]
    refine ⟨g.held, e.seti ⟨g.1, ?_⟩⟩
    show (Rz_present (Sz_readers x a.toNat), Rz_hasLeft (Sz_readers x a.toNat), b, Rz_place (Sz_readers x a.toNat), Rz_readSoFar (Sz_readers x a.toNat), Rz_missedSoFar (Sz_readers x a.toNat), Rz_lastRead (Sz_readers x a.toNat), (0 : Int)) = (Rz_present (Sz_readers y a.toNat), Rz_hasLeft (Sz_readers y a.toNat), b, Rz_place (Sz_readers y a.toNat), Rz_readSoFar (Sz_readers y a.toNat), Rz_missedSoFar (Sz_readers y a.toNat), Rz_lastRead (Sz_readers y a.toNat), (0 : Int))
    rw [g.present, g.hasLeft, g.place, g.readSoFar, g.missedSoFar, g.lastRead]
  | 5 =>
    obtain ⟨r1, r2⟩ := r
    obtain ⟨s1, s2⟩ := s
    have o5 := ok5 o
    rw [r1, s1, r2, s2]
    exact ⟨e.2.2.1 _ (by omega), e.1, e.2.1, upd_congr (N := 6) e.2.2.1 rfl rfl, e.2.2.2⟩
  | 6 =>
    obtain ⟨r1, r2⟩ := r
    obtain ⟨s1, s2⟩ := s
    have o6 := ok6 o
    have e1 := e.ticks a.toNat h (by omega)
    rw [r1, s1, r2, s2]
    exact ⟨by rw [e1.1.1.2.2.2.2, e.1.1.2.2.2.2], e1⟩
  | n + 7 => exact absurd r (by intro z; exact z)
end CS

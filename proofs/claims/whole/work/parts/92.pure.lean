/-! ### an action, and what it makes -/
abbrev rowP (a b d : Int) : Prop := (0 ≤ a ∧ a ≤ 7) ∧ (0 ≤ b ∧ b ≤ 99) ∧ (1 ≤ d ∧ d ≤ 40)
abbrev canJP (σ : SZ) (a how held : Int) : Prop := Rz_present (Sz_readers σ a.toNat) = 0 ∧ (how < 2 ∨ (Rz_hasLeft (Sz_readers σ a.toNat) = 1 ∧ (held = 0 ∨ ¬ Rz_place (Sz_readers σ a.toNat) < Lz_first (Sz_log σ))))
abbrev setP (a b : Int) : Prop := (0 ≤ a ∧ a ≤ 5) ∧ zSvz 1 a.toNat ≤ b ∧ b ≤ zSvz 2 a.toNat
def fltA (σ : SZ) : Nat → Int → Int → Int → Int
  | 0, a, b, d => if rowP a b d then (if 200 ≤ Lz_end (Sz_log σ) then 3 else 0) else 2
  | 1, a, b, d => if (0 ≤ a ∧ a < 8) ∧ (0 ≤ b ∧ b ≤ 2) then (if canJP σ a b d then 0 else 3) else 2
  | 2, a, b, _ => if isR σ a then (if 1 ≤ b ∧ b ≤ 50 then 0 else 2) else 1
  | 3, a, _, _ => if isR σ a then 0 else 1
  | 4, a, b, _ => if isR σ a then (if b = 1 ∧ Rz_place (Sz_readers σ a.toNat) < Lz_first (Sz_log σ) then 3 else 0) else 1
  | 5, a, b, _ => if setP a b then 0 else 2
  | 6, a, _, _ => if 1 ≤ a ∧ a ≤ 99 then 0 else 2
  | _, _, _, _ => 2
def resA (σ : SZ) : Nat → Int → Int → Int → Int → SZ → Prop
  | 0, a, b, d, v, σ' => v = Lz_end (Sz_log σ) ∧ σ' = wrS σ a b d
  | 1, a, b, d, v, σ' => ∃ vs, JoinV σ a.toNat b vs v ∧ σ' = jnS σ a.toNat vs v d
  | 2, a, b, _, v, σ' => (Lz_first (Sz_log σ) ≤ Rz_place (Sz_readers σ a.toNat) ∧ v = zminZ b (Lz_end (Sz_log σ) - Rz_place (Sz_readers σ a.toNat)) ∧ σ' = rdS σ a.toNat (zminZ b (Lz_end (Sz_log σ) - Rz_place (Sz_readers σ a.toNat)))) ∨ (Rz_place (Sz_readers σ a.toNat) < Lz_first (Sz_log σ) ∧ v = -(Lz_first (Sz_log σ) - Rz_place (Sz_readers σ a.toNat)) ∧ ∃ vs, (∀ k : Int, 0 ≤ k → k < 8 → vs k.toNat = Lz_dropValues (Sz_log σ) k.toNat) ∧ σ' = gpS σ a.toNat vs)
  | 3, a, _, _, v, σ' => v = readersN (lvS σ a.toNat) ∧ σ' = lvS σ a.toNat
  | 4, a, b, _, v, σ' => v = Rz_held (Sz_readers σ a.toNat) ∧ σ' = hdS σ a.toNat b
  | 5, a, b, _, v, σ' => v = Sz_settings σ a.toNat ∧ σ' = stS σ a b
  | 6, a, _, _, v, σ' => v = Lz_dropped (Sz_log (ticksS a.toNat σ)) - Lz_dropped (Sz_log σ) ∧ σ' = ticksS a.toNat σ
  | _, _, _, _, _, _ => False
/-- what is asked of the numbers that say yes or no -/
def valA : Nat → Int → Int → Prop
  | 1, _, d => d = 0 ∨ d = 1
  | 4, b, _ => b = 0 ∨ b = 1
  | _, _, _ => True
section PX
variable {σ : SZ} {W : Nat → Int} {T : Int}
theorem q_fault {c : Nat} {a b d : Int} {Q : Int → Prop} (hc : c < 7) (h : SOK σ T) (hv : valA c b d) (k : Q (fltA σ c a b d)) : Z_S_faultOf c a b d σ Q := by
  unfold Z_S_faultOf
  match c, hc with
  | 0, _ =>
    have k : Q (if rowP a b d then (if 200 ≤ Lz_end (Sz_log σ) then 3 else 0) else 2) := k
    refine ⟨fun _ => ?_, fun q => absurd rfl q⟩
    unfold Z_S_faultOfWriting
    refine q_isIn (fun a0 a1 => ⟨fun q => absurd q (by decide), fun _ => q_isIn (fun b0 b1 => ⟨fun q => absurd q (by decide), fun _ => q_isIn (fun d0 d1 => ⟨fun _ => ?_, fun q => absurd q (by decide)⟩) (fun d0 => ⟨fun q => absurd rfl q, fun _ => ?_⟩)⟩) (fun b0 => ⟨fun _ => ?_, fun q => absurd rfl q⟩)⟩) (fun a0 => ⟨fun _ => ?_, fun q => absurd rfl q⟩)
    · rw [if_pos ⟨⟨a0, a1⟩, ⟨b0, b1⟩, d0, d1⟩] at k
      exact ⟨fun q => by rw [if_pos q] at k; exact k, fun q => by rw [if_neg q] at k; exact k⟩
    · rw [if_neg (fun q => d0 q.2.2)] at k
      exact k
    · rw [if_neg (fun q => b0 q.2.1)] at k
      exact k
    · rw [if_neg (fun q => a0 q.1)] at k
      exact k
  | 1, _ =>
    have hv : d = 0 ∨ d = 1 := hv
    have two : ∀ d' : Int, d' = d → Z_S_faultOfJoining a b d' σ (fun r => Q r) := by
      intro d' hd'
      subst hd'
      have k : Q (if (0 ≤ a ∧ a < 8) ∧ (0 ≤ b ∧ b ≤ 2) then (if canJP σ a b d' then 0 else 3) else 2) := k
      unfold Z_S_faultOfJoining
      refine q_named (fun i hi hi8 => ⟨fun q => (nomatch q), fun j q => ?_⟩) (fun q => ⟨fun _ => ?_, fun j q => (nomatch q)⟩)
      · cases q
        have e0 : i = a.toNat := by omega
        subst e0
        have g := h.2.2.2 a.toNat hi8
        refine q_isIn (fun b0 b1 => ⟨fun _ => ?_, fun q => absurd q (by decide)⟩) (fun b0 => ⟨fun q => absurd rfl q, fun _ => ?_⟩)
        · rw [if_pos ⟨⟨by omega, by omega⟩, b0, b1⟩] at k
          refine ⟨fun q => ⟨fun q2 => ?_, fun q2 => ⟨fun _ => ⟨fun _ => ?_, fun q3 => absurd rfl q3⟩, fun q3 => absurd rfl q3⟩⟩, fun q => ⟨fun q2 => ?_, fun q2 => ⟨fun q3 => absurd q3 (by decide), fun _ => ⟨fun q4 => ?_, fun q4 => ⟨fun q5 => absurd q5 (by decide), fun _ => ⟨fun q6 => ?_, fun q6 => ⟨fun q7 => ?_, fun q7 => ?_⟩⟩⟩⟩⟩⟩⟩
          · rw [if_neg (fun z => q2 z.1)] at k
            exact k
          · rw [if_pos ⟨q2, Or.inl (by omega)⟩] at k
            exact k
          · rw [if_neg (fun z => q2 z.1)] at k
            exact k
          · rw [if_neg (fun z => z.2.elim (fun y => by omega) (fun y => by omega))] at k
            exact k
          · rw [if_pos ⟨q2, Or.inr ⟨by rcases g.2.1 with z | z <;> omega, Or.inl q6⟩⟩] at k
            exact k
          · rw [if_pos ⟨q2, Or.inr ⟨by rcases g.2.1 with z | z <;> omega, Or.inr (by omega)⟩⟩] at k
            exact k
          · rw [if_neg (fun z => z.2.elim (fun y => by omega) (fun y => y.2.elim q6 (fun x => x (by omega))))] at k
            exact k
        · rw [if_neg (fun z => b0 z.2)] at k
          exact k
      · rw [if_neg (fun z => q z.1)] at k
        exact k
    exact ⟨fun q => absurd q (by decide), fun _ => ⟨fun _ => ⟨fun q => two 0 (by omega), fun q => two 1 q.symm⟩, fun q => absurd rfl q⟩⟩
  | 2, _ =>
    have k : Q (if isR σ a then (if 1 ≤ b ∧ b ≤ 50 then 0 else 2) else 1) := k
    refine ⟨fun q => absurd q (by decide), fun _ => ⟨fun q => absurd q (by decide), fun _ => ⟨fun _ => ?_, fun q => absurd rfl q⟩⟩⟩
    refine q_reader h (fun i hi hi8 hp => ⟨fun q => (nomatch q), fun j q => ?_⟩) (fun q => ⟨fun _ => ?_, fun j q => (nomatch q)⟩)
    · rw [if_pos ⟨⟨by omega, by omega⟩, by rw [show a.toNat = i by omega]; exact hp⟩] at k
      refine q_isIn (fun b0 b1 => ⟨fun q => absurd q (by decide), fun _ => ?_⟩) (fun b0 => ⟨fun _ => ?_, fun q => absurd rfl q⟩)
      · rw [if_pos ⟨b0, b1⟩] at k
        exact k
      · rw [if_neg b0] at k
        exact k
    · rw [if_neg q] at k
      exact k
  | 3, _ =>
    have k : Q (if isR σ a then 0 else 1) := k
    refine ⟨fun q => absurd q (by decide), fun _ => ⟨fun q => absurd q (by decide), fun _ => ⟨fun q => absurd q (by decide), fun _ => ⟨fun _ => ?_, fun q => absurd rfl q⟩⟩⟩⟩
    refine q_reader h (fun i hi hi8 hp => ⟨fun q => (nomatch q), fun j q => ?_⟩) (fun q => ⟨fun _ => ?_, fun j q => (nomatch q)⟩)
    · rw [if_pos ⟨⟨by omega, by omega⟩, by rw [show a.toNat = i by omega]; exact hp⟩] at k
      exact k
    · rw [if_neg q] at k
      exact k
  | 4, _ =>
    have k : Q (if isR σ a then (if b = 1 ∧ Rz_place (Sz_readers σ a.toNat) < Lz_first (Sz_log σ) then 3 else 0) else 1) := k
    refine ⟨fun q => absurd q (by decide), fun _ => ⟨fun q => absurd q (by decide), fun _ => ⟨fun q => absurd q (by decide), fun _ => ⟨fun q => absurd q (by decide), fun _ => ⟨fun _ => ?_, fun q => absurd rfl q⟩⟩⟩⟩⟩
    refine q_reader h (fun i hi hi8 hp => ⟨fun q => (nomatch q), fun j q => ?_⟩) (fun q => ⟨fun _ => ?_, fun j q => (nomatch q)⟩)
    · rw [if_pos ⟨⟨by omega, by omega⟩, by rw [show a.toNat = i by omega]; exact hp⟩] at k
      refine ⟨fun q2 => ?_, fun q2 => q_hasGap h (fun z => ⟨fun y => absurd y (by decide), fun _ => ?_⟩) (fun z => ⟨fun _ => ?_, fun y => absurd rfl y⟩)⟩
      · rw [if_neg (fun z => q2 z.1)] at k
        exact k
      · rw [if_pos ⟨q2, z.2⟩] at k
        exact k
      · rw [if_neg (fun y => z ⟨⟨⟨by omega, by omega⟩, by rw [show a.toNat = i by omega]; exact hp⟩, y.2⟩)] at k
        exact k
    · rw [if_neg q] at k
      exact k
  | 5, _ =>
    have k : Q (if setP a b then 0 else 2) := k
    refine ⟨fun q => absurd q (by decide), fun _ => ⟨fun q => absurd q (by decide), fun _ => ⟨fun q => absurd q (by decide), fun _ => ⟨fun q => absurd q (by decide), fun _ => ⟨fun q => absurd q (by decide), fun _ => ⟨fun _ => ?_, fun q => absurd rfl q⟩⟩⟩⟩⟩⟩
    refine q_isIn (fun a0 a1 => ⟨fun q => absurd q (by decide), fun _ => q_at (by decide) a0 (by omega) (q_at (by decide) a0 (by omega) (q_isIn (fun b0 b1 => ⟨fun q => absurd q (by decide), fun _ => ?_⟩) (fun b0 => ⟨fun _ => ?_, fun q => absurd rfl q⟩)))⟩) (fun a0 => ⟨fun _ => ?_, fun q => absurd rfl q⟩)
    · rw [if_pos ⟨⟨a0, a1⟩, b0, b1⟩] at k
      exact k
    · rw [if_neg (fun z => b0 z.2)] at k
      exact k
    · rw [if_neg (fun z => a0 z.1)] at k
      exact k
  | 6, _ =>
    have k : Q (if 1 ≤ a ∧ a ≤ 99 then 0 else 2) := k
    refine ⟨fun q => absurd q (by decide), fun _ => ⟨fun q => absurd q (by decide), fun _ => ⟨fun q => absurd q (by decide), fun _ => ⟨fun q => absurd q (by decide), fun _ => ⟨fun q => absurd q (by decide), fun _ => ⟨fun q => absurd q (by decide), fun _ => ⟨fun _ => ?_, fun q => absurd rfl q⟩⟩⟩⟩⟩⟩⟩
    refine q_isIn (fun a0 a1 => ⟨fun q => absurd q (by decide), fun _ => ?_⟩) (fun a0 => ⟨fun _ => ?_, fun q => absurd rfl q⟩)
    · rw [if_pos ⟨a0, a1⟩] at k
      exact k
    · rw [if_neg a0] at k
      exact k
theorem fltA_cases {c : Nat} {a b d : Int} : fltA σ c a b d = 0 ∨ fltA σ c a b d = 1 ∨ fltA σ c a b d = 2 ∨ fltA σ c a b d = 3 := by
  unfold fltA
  split
  · split
    · split <;> simp
    · simp
  · split
    · split <;> simp
    · simp
  · split
    · split <;> simp
    · simp
  · split <;> simp
  · split
    · split <;> simp
    · simp
  · split <;> simp
  · split <;> simp
  · simp
theorem ok0 {a b d : Int} (o : fltA σ 0 a b d = 0) : rowP a b d ∧ Lz_end (Sz_log σ) < 200 := by
  have o : (if rowP a b d then (if 200 ≤ Lz_end (Sz_log σ) then (3 : Int) else 0) else 2) = 0 := o
  by_cases q : rowP a b d
  · rw [if_pos q] at o
    refine ⟨q, ?_⟩
    by_cases q2 : 200 ≤ Lz_end (Sz_log σ)
    · rw [if_pos q2] at o
      exact absurd o (by decide)
    · omega
  · rw [if_neg q] at o
    exact absurd o (by decide)
theorem ok1 {a b d : Int} (o : fltA σ 1 a b d = 0) : ((0 ≤ a ∧ a < 8) ∧ (0 ≤ b ∧ b ≤ 2)) ∧ canJP σ a b d := by
  have o : (if (0 ≤ a ∧ a < 8) ∧ (0 ≤ b ∧ b ≤ 2) then (if canJP σ a b d then (0 : Int) else 3) else 2) = 0 := o
  by_cases q : (0 ≤ a ∧ a < 8) ∧ (0 ≤ b ∧ b ≤ 2)
  · rw [if_pos q] at o
    refine ⟨q, ?_⟩
    by_cases q2 : canJP σ a b d
    · exact q2
    · rw [if_neg q2] at o
      exact absurd o (by decide)
  · rw [if_neg q] at o
    exact absurd o (by decide)
theorem ok2 {a b d : Int} (o : fltA σ 2 a b d = 0) : isR σ a ∧ 1 ≤ b ∧ b ≤ 50 := by
  have o : (if isR σ a then (if 1 ≤ b ∧ b ≤ 50 then (0 : Int) else 2) else 1) = 0 := o
  by_cases q : isR σ a
  · rw [if_pos q] at o
    refine ⟨q, ?_⟩
    by_cases q2 : 1 ≤ b ∧ b ≤ 50
    · exact q2
    · rw [if_neg q2] at o
      exact absurd o (by decide)
  · rw [if_neg q] at o
    exact absurd o (by decide)
theorem ok3 {a b d : Int} (o : fltA σ 3 a b d = 0) : isR σ a := by
  have o : (if isR σ a then (0 : Int) else 1) = 0 := o
  by_cases q : isR σ a
  · exact q
  · rw [if_neg q] at o
    exact absurd o (by decide)
theorem ok4 {a b d : Int} (o : fltA σ 4 a b d = 0) : isR σ a ∧ ¬ (b = 1 ∧ Rz_place (Sz_readers σ a.toNat) < Lz_first (Sz_log σ)) := by
  have o : (if isR σ a then (if b = 1 ∧ Rz_place (Sz_readers σ a.toNat) < Lz_first (Sz_log σ) then (3 : Int) else 0) else 1) = 0 := o
  by_cases q : isR σ a
  · rw [if_pos q] at o
    refine ⟨q, fun q2 => ?_⟩
    rw [if_pos q2] at o
    exact absurd o (by decide)
  · rw [if_neg q] at o
    exact absurd o (by decide)
theorem ok5 {a b d : Int} (o : fltA σ 5 a b d = 0) : setP a b := by
  have o : (if setP a b then (0 : Int) else 2) = 0 := o
  by_cases q : setP a b
  · exact q
  · rw [if_neg q] at o
    exact absurd o (by decide)
theorem ok6 {a b d : Int} (o : fltA σ 6 a b d = 0) : 1 ≤ a ∧ a ≤ 99 := by
  have o : (if 1 ≤ a ∧ a ≤ 99 then (0 : Int) else 2) = 0 := o
  by_cases q : 1 ≤ a ∧ a ≤ 99
  · exact q
  · rw [if_neg q] at o
    exact absurd o (by decide)
theorem JoinV.pl {a b d pl : Int} {vs : Nat → Int} (h : SOK σ T) (o : fltA σ 1 a b d = 0) (hd : d = 0 ∨ d = 1) (j : JoinV σ a.toNat b vs pl) : (0 ≤ pl ∧ pl ≤ Lz_end (Sz_log σ)) ∧ (d = 1 → Lz_first (Sz_log σ) ≤ pl) := by
  obtain ⟨⟨a1, a2⟩, p, c⟩ := ok1 o
  have h1 := h.1.1
  have g := h.2.2.2 a.toNat (by omega)
  obtain ⟨j1, j2, j3⟩ := j
  by_cases q : b = 0
  · have e := (j1 q).1
    omega
  · by_cases q2 : b = 1
    · have e := (j2 q2).1
      omega
    · have e := (j3 q q2).1
      rcases c with c | c
      · omega
      · have g5 := g.2.2.2.2.1 (Or.inr c.1)
        rw [e]
        refine ⟨g5, fun q3 => ?_⟩
        rcases c.2 with z | z <;> omega
theorem SOK.jv {a b d pl : Int} {vs : Nat → Int} (h : SOK σ T) (o : fltA σ 1 a b d = 0) (hd : d = 0 ∨ d = 1) (j : JoinV σ a.toNat b vs pl) : SOK (jnS σ a.toNat vs pl d) T := by
  have e := j.pl h o hd
  have a1 := (ok1 o).1
  exact h.jn hd e.1 e.2 (by omega)
theorem JoinV.same {a b d pl pl2 : Int} {vs vs2 : Nat → Int} (j : JoinV σ a.toNat b vs pl) (j2 : JoinV σ a.toNat b vs2 pl2) : pl = pl2 ∧ SEq (jnS σ a.toNat vs pl d) (jnS σ a.toNat vs2 pl2 d) := by
  have e : pl = pl2 ∧ ∀ k : Nat, k < 8 → vs k = vs2 k := by
    by_cases q : b = 0
    · exact ⟨(j.1 q).1.trans (j2.1 q).1.symm, fun k hk => ((j.1 q).2 k (by omega) (by omega)).trans ((j2.1 q).2 k (by omega) (by omega)).symm⟩
    · by_cases q2 : b = 1
      · exact ⟨(j.2.1 q2).1.trans (j2.2.1 q2).1.symm, fun k hk => ((j.2.1 q2).2 k (by omega) (by omega)).trans ((j2.2.1 q2).2 k (by omega) (by omega)).symm⟩
      · exact ⟨(j.2.2 q q2).1.trans (j2.2.2 q q2).1.symm, fun k hk => by rw [(j.2.2 q q2).2, (j2.2.2 q q2).2]⟩
  obtain ⟨e1, e2⟩ := e
  subst e1
  refine ⟨rfl, LEq.refl, fun n hn => ?_, fun _ _ => rfl, rfl⟩
  by_cases q : n = a.toNat
  · rw [q, rd_eq, rd_eq]
    exact ⟨e2, rfl⟩
  · rw [rd_ne q, rd_ne q]
    exact ⟨fun _ _ => rfl, rfl⟩
theorem gp_same {a : Nat} {vs vs2 : Nat → Int} (e : ∀ k : Int, 0 ≤ k → k < 8 → vs k.toNat = Lz_dropValues (Sz_log σ) k.toNat) (e2 : ∀ k : Int, 0 ≤ k → k < 8 → vs2 k.toNat = Lz_dropValues (Sz_log σ) k.toNat) : SEq (gpS σ a vs) (gpS σ a vs2) := by
  refine ⟨LEq.refl, fun n hn => ?_, fun _ _ => rfl, rfl⟩
  have h1 : ∀ (r1 : RZ) (m : Int), Sz_readers (Sz_set_missed (Sz_seti_readers σ a r1) m) = Sz_readers (Sz_seti_readers σ a r1) := fun _ _ => rfl
  rw [h1, h1]
  by_cases q : n = a
  · rw [q, rd_eq, rd_eq]
    exact ⟨fun k hk => (e k (by omega) (by omega)).trans (e2 k (by omega) (by omega)).symm, rfl⟩
  · rw [rd_ne q, rd_ne q]
    exact ⟨fun _ _ => rfl, rfl⟩
theorem SOK.mono {T' : Int} (h : SOK σ T) (e : T ≤ T') (hT : T' ≤ 5000000) : SOK σ T' := by
  have h2 := h.2.1
  exact ⟨h.1, by omega, h.2.2.1, fun n hn => (h.2.2.2 n hn).to rfl (Int.le_refl _) (Int.le_refl _) e⟩
end PX

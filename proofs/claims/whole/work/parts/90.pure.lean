/-! ### the model joins, reads, leaves -/
section PU
variable {σ : SZ} {W : Nat → Int} {T : Int}
theorem m_canJoin {a how held : Int} {Q : Int → Prop} (h : SOK σ T) (r : Rel σ W) (h0 : 0 ≤ a) (h1 : a < 8)
    (k1 : Rz_present (Sz_readers σ a.toNat) = 0 → (how < 2 ∨ (Rz_hasLeft (Sz_readers σ a.toNat) = 1 ∧ (held = 0 ∨ ¬ Rz_place (Sz_readers σ a.toNat) < Lz_first (Sz_log σ)))) → Q 1)
    (k0 : ¬ (Rz_present (Sz_readers σ a.toNat) = 0 ∧ (how < 2 ∨ (Rz_hasLeft (Sz_readers σ a.toNat) = 1 ∧ (held = 0 ∨ ¬ Rz_place (Sz_readers σ a.toNat) < Lz_first (Sz_log σ))))) → Q 0) : Z_M_canJoin a how held W Q := by
  obtain ⟨g1, g2, g3, g4⟩ := r.2.2.2.2.2 a h0 h1
  refine m_reader h0 h1 ⟨by omega, by omega, ?_⟩
  rw [Int.add_zero, g1]
  refine ⟨fun c => ⟨by omega, by omega, fun _ => k0 (fun q => c q.1), fun q => absurd rfl q⟩, fun c => ⟨by omega, by omega, fun q => absurd q (by decide), fun _ => ⟨fun c2 => k1 c (Or.inl c2), fun c2 => ⟨by omega, ?_⟩⟩⟩⟩
  rw [g3]
  refine ⟨fun c3 => k0 (fun q => q.2.elim (fun z => c2 z) (fun z => c3 z.1)), fun c3 => ⟨fun c4 => k1 c (Or.inr ⟨c3, Or.inl c4⟩), fun c4 => ⟨by omega, by omega, by omega, ?_⟩⟩⟩
  rw [(g4 c c3).1, r.1.1]
  exact ⟨fun c5 => k0 (fun q => q.2.elim (fun z => c2 z) (fun z => z.2.elim c4 (fun y => y c5))), fun c5 => k1 c (Or.inr ⟨c3, Or.inr c5⟩)⟩
/-- a value of a reader's table is put -/
theorem Rel.vput {V : Nat → Int} {a i y : Int} {vs : Nat → Int} {hl held pl rs ms lr lb : Int} (he : Lz_end (Sz_log σ) ≤ 200) (h0 : 0 ≤ a) (h1 : a < 8) (i0 : 0 ≤ i) (i1 : i < 8) (r : Rel (Sz_seti_readers σ a.toNat (vs, 1, hl, held, pl, rs, ms, lr, lb)) V) : Rel (Sz_seti_readers σ a.toNat (updz vs i.toNat y, 1, hl, held, pl, rs, ms, lr, lb)) (updz V (410 + 15 * a + 7 + i).toNat y) := by
  have hk : ∀ m : Nat, m ≠ (410 + 15 * a + 7 + i).toNat → updz V (410 + 15 * a + 7 + i).toNat y m = V m := fun m m0 => updz_ne m0
  obtain ⟨g1, g2, g3, g4⟩ := r.2.2.2.2.2 a h0 h1
  rw [rd_eq] at g1 g2 g3 g4
  obtain ⟨a1, a2, a3, a4, a5, a6, a7⟩ := g2 rfl
  rw [← seti2 (r1 := (vs, 1, hl, held, pl, rs, ms, lr, lb))]
  refine Rel.setr r he h0 h1 (fun m m0 m1 => hk m (by omega)) ?_
  unfold RelR
  rw [rd_eq]
  refine ⟨by rw [hk _ (by omega)]; exact g1, fun _ => ⟨by rw [hk _ (by omega)]; exact a1, by rw [hk _ (by omega)]; exact a2, by rw [hk _ (by omega)]; exact a3, by rw [hk _ (by omega)]; exact a4, by rw [hk _ (by omega)]; exact a5, by rw [hk _ (by omega)]; exact a6, fun q q0 q1 => ?_⟩, by rw [hk _ (by omega)]; exact g3, fun c => absurd (show (1 : Int) = 0 from c) (by decide)⟩
  show _ = updz vs i.toNat y q.toNat
  by_cases z : q = i
  · rw [z, updz_eq, updz_eq]
  · rw [hk _ (by omega), updz_ne (by omega)]
    exact a7 q q0 q1
theorem m_goJoin {a how held : Int} {Q : Int → (Nat → Int) → Prop} (h : SOK σ T) (r : Rel σ W) (h0 : 0 ≤ a) (h1 : a < 8) (hh : held = 0 ∨ held = 1) (hp : Rz_present (Sz_readers σ a.toNat) = 0) (hl : how ≠ 0 → how ≠ 1 → Rz_hasLeft (Sz_readers σ a.toNat) = 1) (hf : held = 1 → how ≠ 0 → how ≠ 1 → Lz_first (Sz_log σ) ≤ Rz_place (Sz_readers σ a.toNat))
    (k : ∀ vs pl W', JoinV σ a.toNat how vs pl → Rel (jnS σ a.toNat vs pl held) W' → Q pl W') : Z_M_goJoin a how held W Q := by
  have h3 := h.1.1
  obtain ⟨g1, g2, g3, g4⟩ := r.2.2.2.2.2 a h0 h1
  -- the loop over the table
  have key : ∀ (pl : Int), 0 ≤ pl → pl ≤ Lz_end (Sz_log σ) → (held = 1 → Lz_first (Sz_log σ) ≤ pl) → (how = 0 → pl = Lz_first (Sz_log σ)) → (how = 1 → pl = Lz_end (Sz_log σ)) → (how ≠ 0 → how ≠ 1 → pl = Rz_place (Sz_readers σ a.toNat)) → ∀ (n i : Nat) (vs V : Nat → Int), i + n = 8 → Rel (jnS σ a.toNat vs pl held) V → (∀ m : Nat, 530 + 10 * a ≤ m → (m : Int) < 530 + 10 * a + 10 → V m = W m) →
      (∀ m : Int, 0 ≤ m → m < i → (how = 0 → vs m.toNat = Lz_dropValues (Sz_log σ) m.toNat) ∧ (how = 1 → vs m.toNat = toldX (Sz_log σ) m (Lz_end (Sz_log σ))) ∧ (how ≠ 0 → how ≠ 1 → vs m.toNat = Rz_values (Sz_readers σ a.toNat) m.toNat)) → ZL_M_goJoin_111 (n + 1) a how held how (410 + 15 * a) (530 + 10 * a) i V Q := by
    intro pl p0 p1 pf ph0 ph1 ph2 n
    induction n with
    | zero =>
      intro i vs V hi hV hW hv
      rw [ZL_M_goJoin_111]
      refine ⟨fun _ => ⟨by omega, by omega, ?_⟩, fun c => absurd c (by omega)⟩
      obtain ⟨b1, b2, b3, b4⟩ := hV.2.2.2.2.2 a h0 h1
      rw [rd_eq] at b2
      rw [(b2 rfl).1]
      by_cases c0 : how = 0
      · exact k vs pl V ⟨fun _ => ⟨ph0 c0, fun m m0 m1 => (hv m m0 (by omega)).1 c0⟩, fun q => absurd q (by omega), fun q => absurd c0 q⟩ hV
      · by_cases c1 : how = 1
        · exact k vs pl V ⟨fun q => absurd q c0, fun _ => ⟨ph1 c1, fun m m0 m1 => (hv m m0 (by omega)).2.1 c1⟩, fun _ q => absurd c1 q⟩ hV
        · -- beyond the eighth the values are as they were
          have ev : Rel (jnS σ a.toNat (Rz_values (Sz_readers σ a.toNat)) pl held) V := by
            have e : jnS σ a.toNat (Rz_values (Sz_readers σ a.toNat)) pl held = Sz_seti_readers (jnS σ a.toNat vs pl held) a.toNat (Rz_values (Sz_readers σ a.toNat), 1, Rz_hasLeft (Sz_readers σ a.toNat), held, pl, 0, 0, Sz_time σ, 0) := seti2.symm
            rw [e]
            refine hV.setr (by show Lz_end (Sz_log σ) ≤ 200; omega) h0 h1 (fun m _ _ => rfl) ?_
            unfold RelR
            rw [rd_eq]
            obtain ⟨b21, b22, b23, b24, b25, b26, b27⟩ := b2 rfl
            rw [rd_eq] at b1 b3 b4
            exact ⟨b1, fun _ => ⟨b21, b22, b23, b24, b25, b26, fun q q0 q1 => (b27 q q0 q1).trans ((hv q q0 (by omega)).2.2 c0 c1)⟩, b3, fun c => absurd (show (1 : Int) = 0 from c) (by decide)⟩
          exact k _ pl V ⟨fun q => absurd q c0, fun q => absurd q c1, fun _ _ => ⟨ph2 c0 c1, rfl⟩⟩ ev
    | succ n ih =>
      intro i vs V hi hV hW hv
      have hS : SOK (jnS σ a.toNat vs pl held) T := h.jn hh ⟨p0, p1⟩ pf (by omega)
      rw [ZL_M_goJoin_111]
      have step : ∀ y : Int, ((how = 0 → y = Lz_dropValues (Sz_log σ) i) ∧ (how = 1 → y = toldX (Sz_log σ) i (Lz_end (Sz_log σ))) ∧ (how ≠ 0 → how ≠ 1 → y = Rz_values (Sz_readers σ a.toNat) i)) → ZL_M_goJoin_111 (n + 1) a how held how (410 + 15 * a) (530 + 10 * a) ((i : Int) + 1) (updz V (410 + 15 * a + 7 + (i : Int)).toNat y) Q := by
        intro y hy
        refine ih (i + 1) (updz vs i y) _ (by omega) ?_ (fun m m0 m1 => ?_) (fun m m0 m1 => ?_)
        · exact hV.vput (by omega) h0 h1 (i := i) (by omega) (by omega)
        · rw [updz_ne (by omega)]
          exact hW m m0 m1
        · by_cases z : m = i
          · have e : m.toNat = i := by omega
            rw [e, updz_eq, z]
            exact hy
          · rw [updz_ne (by omega)]
            exact hv m m0 (by omega)
      refine ⟨fun c => absurd c (by omega), fun _ => ⟨fun c0 => ⟨fun c1 => ⟨by omega, by omega, by omega, by omega, by omega, by omega, ?_⟩, fun c1 => ⟨by omega, ?_⟩⟩, fun c0 => ⟨by omega, by omega, by omega, by omega, by omega, ?_⟩⟩⟩
      · rintro _ rfl
        rw [hW _ (by omega) (by omega), (g4 hp (hl c0 c1)).2 i (by omega) (by omega)]
        exact ⟨by omega, step _ ⟨fun q => absurd q c0, fun q => absurd q c1, fun _ _ => rfl⟩⟩
      · rw [hV.1.2.1]
        refine m_told hS hV (by omega) (by omega) (by show Lz_first (Sz_log σ) ≤ Lz_end (Sz_log σ); omega) (Int.le_refl _) ⟨by omega, by omega, by omega, ?_⟩
        rintro _ rfl
        exact ⟨by omega, step _ ⟨fun q => absurd q c0, fun _ => rfl, fun _ q => absurd c1 q⟩⟩
      · rintro _ rfl
        rw [hV.2.1 i (by omega) (by omega)]
        exact ⟨by omega, step _ ⟨fun _ => rfl, fun q => absurd q (by omega), fun q => absurd c0 q⟩⟩
  have J59 : ∀ pl : Int, 0 ≤ pl → pl ≤ Lz_end (Sz_log σ) → (held = 1 → Lz_first (Sz_log σ) ≤ pl) → (how = 0 → pl = Lz_first (Sz_log σ)) → (how = 1 → pl = Lz_end (Sz_log σ)) → (how ≠ 0 → how ≠ 1 → pl = Rz_place (Sz_readers σ a.toNat)) → ZJ_M_goJoin_59 a how held how held (410 + 15 * a) (530 + 10 * a) pl (410 + 15 * a + 1) (updz W (410 + 15 * a).toNat 1) Q := by
    intro pl p0 p1 pf ph0 ph1 ph2
    have J74 : ZJ_M_goJoin_74 a how held how (410 + 15 * a) (530 + 10 * a) held (410 + 15 * a + 2) (updz (updz W (410 + 15 * a).toNat 1) (410 + 15 * a + 1).toNat pl) Q := by
      unfold ZJ_M_goJoin_74
      refine ⟨by omega, ?_⟩
      rintro _ rfl
      refine ⟨by omega, by omega, ?_⟩
      rintro _ rfl
      refine ⟨by omega, by omega, ?_⟩
      rintro _ rfl
      refine ⟨by omega, by omega, by omega, ?_⟩
      rintro _ rfl
      refine ⟨by omega, by omega, ?_⟩
      rintro _ rfl
      have e16 : updz (updz (updz (updz (updz W (410 + 15 * a).toNat 1) (410 + 15 * a + 1).toNat pl) (410 + 15 * a + 2).toNat held) (410 + 15 * a + 3).toNat 0) (410 + 15 * a + 4).toNat 0 (Int.toNat 616) = Sz_time σ := by
        rw [updz_ne (by omega), updz_ne (by omega), updz_ne (by omega), updz_ne (by omega), updz_ne (by omega)]
        exact r.1.2.2.1
      rw [e16]
      generalize hV : updz (updz (updz (updz (updz (updz (updz W (410 + 15 * a).toNat 1) (410 + 15 * a + 1).toNat pl) (410 + 15 * a + 2).toNat held) (410 + 15 * a + 3).toNat 0) (410 + 15 * a + 4).toNat 0) (410 + 15 * a + 5).toNat (Sz_time σ)) (410 + 15 * a + 6).toNat 0 = V
      have hk : ∀ m : Nat, ¬ (410 + 15 * a ≤ m ∧ (m : Int) < 410 + 15 * a + 7) → V m = W m := fun m m0 => by
        rw [← hV, updz_ne (by omega), updz_ne (by omega), updz_ne (by omega), updz_ne (by omega), updz_ne (by omega), updz_ne (by omega), updz_ne (by omega)]
      have hR : Rel (jnS σ a.toNat (fun m => V (410 + 15 * a + 7 + (m : Int)).toNat) pl held) V := by
        refine r.setr (by omega) h0 h1 (fun m m0 m1 => hk m (by omega)) ?_
        unfold RelR
        rw [rd_eq]
        refine ⟨?_, fun _ => ⟨?_, ?_, ?_, ?_, ?_, ?_, fun q q0 q1 => ?_⟩, ?_, fun c => absurd (show (1 : Int) = 0 from c) (by decide)⟩
        · rw [← hV, updz_ne (by omega), updz_ne (by omega), updz_ne (by omega), updz_ne (by omega), updz_ne (by omega), updz_ne (by omega), updz_eq]
        · rw [← hV, updz_ne (by omega), updz_ne (by omega), updz_ne (by omega), updz_ne (by omega), updz_ne (by omega), updz_eq]
        · rw [← hV, updz_ne (by omega), updz_ne (by omega), updz_ne (by omega), updz_ne (by omega), updz_eq]
        · rw [← hV, updz_ne (by omega), updz_ne (by omega), updz_ne (by omega), updz_eq]
        · rw [← hV, updz_ne (by omega), updz_ne (by omega), updz_eq]
        · rw [← hV, updz_ne (by omega), updz_eq]
        · rw [← hV, updz_eq]
        · show _ = V (410 + 15 * a + 7 + ((q.toNat : Nat) : Int)).toNat
          rw [show ((q.toNat : Nat) : Int) = q by omega]
        · rw [hk _ (by omega)]
          exact g3
      have h9 := key pl p0 p1 pf ph0 ph1 ph2 8 0 _ V rfl hR (fun m m0 m1 => hk m (by omega)) (fun m m0 m1 => absurd m1 (by omega))
      exact ⟨_, h9⟩
    unfold ZJ_M_goJoin_59
    refine ⟨by omega, ?_⟩
    rintro _ rfl
    refine ⟨fun c => ⟨by omega, ?_⟩, fun c => ⟨by omega, ?_⟩⟩
    · rw [c] at J74 ⊢
      exact J74
    · rw [show held = 1 by omega] at J74 ⊢
      exact J74
  refine m_reader h0 h1 ⟨by omega, by omega, ?_⟩
  rw [Int.add_zero]
  rintro _ rfl
  refine ⟨fun c0 => ⟨fun c1 => ⟨by omega, by omega, by omega, by omega, by omega, ?_⟩, fun c1 => ⟨by omega, by omega, by omega, by omega, ?_⟩⟩, fun c0 => ⟨by omega, by omega, by omega, by omega, ?_⟩⟩
  · have hl1 := hl c0 c1
    have hr := (h.2.2.2 a.toNat (by omega)).2.2.2.2.1 (Or.inr hl1)
    rw [updz_ne (by omega), (g4 hp hl1).1]
    exact J59 _ hr.1 hr.2 (fun q => hf q c0 c1) (fun q => absurd q c0) (fun q => absurd q c1) (fun _ _ => rfl)
  · rw [updz_ne (by omega), r.1.2.1]
    exact J59 _ (by omega) (by omega) (fun _ => by omega) (fun q => absurd q c0) (fun _ => rfl) (fun _ q => absurd c1 q)
  · rw [updz_ne (by omega), r.1.1]
    exact J59 _ (by omega) (by omega) (fun _ => by omega) (fun _ => rfl) (fun q => absurd q (by omega)) (fun q => absurd c0 q)
theorem dropFn_snoc {K V : Nat → Int} : ∀ (n : Nat) (i : Int) (d : Nat → Int), dropFn K V (n + 1) i d = updz (dropFn K V n i d) (K (i + n).toNat).toNat (V (i + n).toNat) := by
  intro n
  induction n with
  | zero =>
    intro i d
    rw [show i + ((0 : Nat) : Int) = i by omega]
    rfl
  | succ n ih =>
    intro i d
    have e := ih (i + 1) (updz d (K i.toNat).toNat (V i.toNat))
    rw [show i + 1 + (n : Int) = i + ((n + 1 : Nat) : Int) by omega] at e
    exact e
theorem m_goRead {a n : Int} {Q : Int → (Nat → Int) → Prop} (h : SOK σ T) (hT : T + 1 ≤ 5000000) (r : Rel σ W) (h0 : 0 ≤ a) (h1 : a < 8) (hp : Rz_present (Sz_readers σ a.toNat) = 1) (hn : 1 ≤ n ∧ n ≤ 50)
    (k0 : Lz_first (Sz_log σ) ≤ Rz_place (Sz_readers σ a.toNat) → ∀ W', Rel (rdS σ a.toNat (zminZ n (Lz_end (Sz_log σ) - Rz_place (Sz_readers σ a.toNat)))) W' → Q (zminZ n (Lz_end (Sz_log σ) - Rz_place (Sz_readers σ a.toNat))) W')
    (k1 : Rz_place (Sz_readers σ a.toNat) < Lz_first (Sz_log σ) → ∀ vs W', (∀ k : Int, 0 ≤ k → k < 8 → vs k.toNat = Lz_dropValues (Sz_log σ) k.toNat) → Rel (gpS σ a.toNat vs) W' → Q (-(Lz_first (Sz_log σ) - Rz_place (Sz_readers σ a.toNat))) W') : Z_M_goRead a n W Q := by
  have h3 := h.1.1
  have h2 := h.2.1
  have hr := h.2.2.2 a.toNat (by omega)
  have h5 := hr.2.2.2.2.1 (Or.inl hp)
  have h6 := hr.2.2.2.2.2 hp
  obtain ⟨g1, g2, g3, g4⟩ := r.2.2.2.2.2 a h0 h1
  obtain ⟨a1, a2, a3, a4, a5, a6, a7⟩ := g2 hp
  refine m_reader h0 h1 ⟨by omega, by omega, by omega, ?_⟩
  rintro _ rfl
  refine ⟨by omega, by omega, by omega, ?_⟩
  rw [r.1.2.2.1]
  have hk : ∀ m : Nat, m ≠ (410 + 15 * a + 5).toNat → updz W (410 + 15 * a + 5).toNat (Sz_time σ) m = W m := fun m m0 => updz_ne m0
  rw [hk _ (by omega), hk _ (by omega), r.1.1, a1]
  refine ⟨by omega, fun c => ?_, fun c => ?_⟩
  · have hm := zminZ_in (n := n) (m := Lz_end (Sz_log σ) - Rz_place (Sz_readers σ a.toNat)) (by omega) (by omega)
    have hmm : zminZ n (Lz_end (Sz_log σ) - Rz_place (Sz_readers σ a.toNat)) = n ∨ zminZ n (Lz_end (Sz_log σ) - Rz_place (Sz_readers σ a.toNat)) = Lz_end (Sz_log σ) - Rz_place (Sz_readers σ a.toNat) := by
      by_cases q : Lz_end (Sz_log σ) - Rz_place (Sz_readers σ a.toNat) < n
      · exact Or.inr (if_pos q)
      · exact Or.inl (if_neg q)
    have k0 := k0 (by omega)
    generalize zminZ n (Lz_end (Sz_log σ) - Rz_place (Sz_readers σ a.toNat)) = y at k0 hm hmm
    have key : ∀ (f j : Nat) (V : Nat → Int), (j : Int) + f = y → Rel (rdS σ a.toNat j) V → ZL_M_goRead_103 (f + 1) a n n (410 + 15 * a) j V Q := by
      intro f
      induction f with
      | zero =>
        intro j V hj hV
        rw [ZL_M_goRead_103]
        have ej : (j : Int) = y := by omega
        obtain ⟨b1, b2, b3, b4⟩ := hV.2.2.2.2.2 a h0 h1
        rw [rd_eq] at b2
        have b21 := (b2 hp).1
        have kk : Q (j : Int) V := by
          rw [ej] at hV ⊢
          exact k0 V hV
        refine ⟨fun _ => kk, fun c2 => ⟨by omega, by omega, by omega, ?_⟩⟩
        rw [hV.1.2.1, b21]
        exact ⟨fun _ => kk, fun c3 => absurd c3 (by show ¬ ¬ Lz_end (Sz_log σ) ≤ Rz_place (Sz_readers σ a.toNat) + (j : Int); omega)⟩
      | succ f ih =>
        intro j V hj hV
        have hS : SOK (rdS σ a.toNat j) (T + 1) := h.rd hT (by omega) hp (by omega)
        rw [ZL_M_goRead_103]
        obtain ⟨b1, b2, b3, b4⟩ := hV.2.2.2.2.2 a h0 h1
        rw [rd_eq] at b1 b2 b3 b4
        obtain ⟨c1, c2, c3, c4, c5, c6, c7⟩ := b2 hp
        have h7 := h.1.2.2.2.2.1 (Rz_place (Sz_readers σ a.toNat) + (j : Int)).toNat (by omega)
        refine ⟨fun q => absurd q (by omega), fun _ => ⟨by omega, by omega, by omega, ?_⟩⟩
        rw [hV.1.2.1, c1]
        refine ⟨fun q => absurd q (by show ¬ Lz_end (Sz_log σ) ≤ Rz_place (Sz_readers σ a.toNat) + (j : Int); omega), fun _ => ⟨by omega, ?_⟩⟩
        refine m_key hS hV (by show 0 ≤ Rz_place (Sz_readers σ a.toNat) + (j : Int); omega) (by show Rz_place (Sz_readers σ a.toNat) + (j : Int) < Lz_end (Sz_log σ); omega) ⟨by omega, ?_⟩
        refine m_value hS hV (by show 0 ≤ Rz_place (Sz_readers σ a.toNat) + (j : Int); omega) (by show Rz_place (Sz_readers σ a.toNat) + (j : Int) < Lz_end (Sz_log σ); omega) ?_
        generalize hK : Lz_keys (Sz_log (rdS σ a.toNat j)) (Rz_place (Sz_readers σ a.toNat) + (j : Int)).toNat = K
        have hK2 : 0 ≤ K ∧ K < 8 := by rw [← hK]; exact ⟨h7.1, h7.2.1⟩
        refine ⟨by omega, by omega, by omega, ?_⟩
        rintro _ rfl
        refine ⟨by omega, by omega, ?_⟩
        rw [updz_ne (by omega), c1]
        refine ⟨by show -2147483648 ≤ Rz_place (Sz_readers σ a.toNat) + (j : Int) + 1 ∧ Rz_place (Sz_readers σ a.toNat) + (j : Int) + 1 < 2147483648; omega, ?_⟩
        rintro _ rfl
        refine ⟨by omega, by omega, by omega, ?_⟩
        rw [updz_ne (by omega), updz_ne (by omega), c3]
        refine ⟨by show -2147483648 ≤ Rz_readSoFar (Sz_readers σ a.toNat) + (j : Int) + 1 ∧ Rz_readSoFar (Sz_readers σ a.toNat) + (j : Int) + 1 < 2147483648; omega, ?_⟩
        rintro _ rfl
        refine ⟨by omega, ?_⟩
        refine ih (j + 1) _ (by omega) ?_
        have e : rdS σ a.toNat ((j + 1 : Nat) : Int) = Sz_seti_readers (rdS σ a.toNat j) a.toNat (dropFn (Lz_keys (Sz_log σ)) (Lz_values (Sz_log σ)) ((j + 1 : Nat) : Int).toNat (Rz_place (Sz_readers σ a.toNat)) (Rz_values (Sz_readers σ a.toNat)), Rz_present (Sz_readers σ a.toNat), Rz_hasLeft (Sz_readers σ a.toNat), Rz_held (Sz_readers σ a.toNat), Rz_place (Sz_readers σ a.toNat) + ((j + 1 : Nat) : Int), Rz_readSoFar (Sz_readers σ a.toNat) + ((j + 1 : Nat) : Int), Rz_missedSoFar (Sz_readers σ a.toNat), Sz_time σ, Rz_lostBy (Sz_readers σ a.toNat)) := seti2.symm
        rw [e]
        refine hV.setr (by show Lz_end (Sz_log σ) ≤ 200; omega) h0 h1 (fun m m0 m1 => by rw [updz_ne (by omega), updz_ne (by omega), updz_ne (by omega)]) ?_
        unfold RelR
        rw [rd_eq]
        refine ⟨?_, fun _ => ⟨?_, ?_, ?_, ?_, ?_, ?_, fun q q0 q1 => ?_⟩, ?_, fun c => absurd (show Rz_present (Sz_readers σ a.toNat) = 0 from c) (by omega)⟩
        · rw [updz_ne (by omega), updz_ne (by omega), updz_ne (by omega)]; exact b1
        · rw [updz_ne (by omega), updz_eq]
          show Rz_place (Sz_readers σ a.toNat) + (j : Int) + 1 = Rz_place (Sz_readers σ a.toNat) + ((j + 1 : Nat) : Int)
          omega
        · rw [updz_ne (by omega), updz_ne (by omega), updz_ne (by omega)]; exact c2
        · rw [updz_eq]
          show Rz_readSoFar (Sz_readers σ a.toNat) + (j : Int) + 1 = Rz_readSoFar (Sz_readers σ a.toNat) + ((j + 1 : Nat) : Int)
          omega
        · rw [updz_ne (by omega), updz_ne (by omega), updz_ne (by omega)]; exact c4
        · rw [updz_ne (by omega), updz_ne (by omega), updz_ne (by omega)]; exact c5
        · rw [updz_ne (by omega), updz_ne (by omega), updz_ne (by omega)]; exact c6
        · show _ = dropFn (Lz_keys (Sz_log σ)) (Lz_values (Sz_log σ)) ((j + 1 : Nat) : Int).toNat (Rz_place (Sz_readers σ a.toNat)) (Rz_values (Sz_readers σ a.toNat)) q.toNat
          rw [show ((j + 1 : Nat) : Int).toNat = j + 1 by omega, dropFn_snoc]
          have hK' : Lz_keys (Sz_log σ) (Rz_place (Sz_readers σ a.toNat) + (j : Int)).toNat = K := hK
          rw [hK']
          by_cases z : q = K
          · rw [z, updz_ne (by omega), updz_ne (by omega), updz_eq, updz_eq]
          · rw [updz_ne (by omega), updz_ne (by omega), updz_ne (by omega), updz_ne (by omega)]
            have e7 := c7 q q0 q1
            have e7 : V (410 + 15 * a + 7 + q).toNat = dropFn (Lz_keys (Sz_log σ)) (Lz_values (Sz_log σ)) ((j : Nat) : Int).toNat (Rz_place (Sz_readers σ a.toNat)) (Rz_values (Sz_readers σ a.toNat)) q.toNat := e7
            rw [show ((j : Nat) : Int).toNat = j by omega] at e7
            exact e7
        · rw [updz_ne (by omega), updz_ne (by omega), updz_ne (by omega)]; exact b3
    have hV0 : Rel (rdS σ a.toNat ((0 : Nat) : Int)) (updz W (410 + 15 * a + 5).toNat (Sz_time σ)) := by
      refine r.setr (by omega) h0 h1 (fun m m0 m1 => hk m (by omega)) ?_
      unfold RelR
      rw [rd_eq]
      refine ⟨by rw [hk _ (by omega)]; exact g1, fun _ => ⟨?_, by rw [hk _ (by omega)]; exact a2, ?_, by rw [hk _ (by omega)]; exact a4, updz_eq, by rw [hk _ (by omega)]; exact a6, fun q q0 q1 => by rw [hk _ (by omega)]; exact a7 q q0 q1⟩, by rw [hk _ (by omega)]; exact g3, fun c => absurd (show Rz_present (Sz_readers σ a.toNat) = 0 from c) (by omega)⟩
      · rw [hk _ (by omega)]
        show _ = Rz_place (Sz_readers σ a.toNat) + ((0 : Nat) : Int)
        rw [a1]
        omega
      · rw [hk _ (by omega)]
        show _ = Rz_readSoFar (Sz_readers σ a.toNat) + ((0 : Nat) : Int)
        rw [a3]
        omega
    have h9 := key y.toNat 0 _ (by omega) hV0
    exact ⟨_, h9⟩
  · refine ⟨by omega, by omega, by omega, ?_⟩
    rw [hk _ (by omega), a4]
    refine ⟨by omega, ?_⟩
    rintro _ rfl
    refine ⟨by omega, by omega, ?_⟩
    rw [updz_ne (by omega), hk _ (by omega), r.1.2.2.2.2.2.2]
    refine ⟨by omega, ?_⟩
    rintro _ rfl
    refine ⟨by omega, by omega, ?_⟩
    rintro _ rfl
    rw [updz_ne (show (Int.toNat 400) ≠ Int.toNat 620 by decide), updz_ne (by omega), hk _ (by omega), r.1.1]
    generalize hV : updz (updz (updz (updz W (410 + 15 * a + 5).toNat (Sz_time σ)) (410 + 15 * a + 4).toNat (Rz_missedSoFar (Sz_readers σ a.toNat) + (Lz_first (Sz_log σ) - Rz_place (Sz_readers σ a.toNat)))) (Int.toNat 620) (Sz_missed σ + (Lz_first (Sz_log σ) - Rz_place (Sz_readers σ a.toNat)))) (410 + 15 * a + 1).toNat (Lz_first (Sz_log σ)) = V0
    have hk2 : ∀ m : Nat, m ≠ (410 + 15 * a + 5).toNat → m ≠ (410 + 15 * a + 4).toNat → m ≠ 620 → m ≠ (410 + 15 * a + 1).toNat → V0 m = W m := fun m m0 m1 m2 m3 => by
      rw [← hV, updz_ne m3, updz_ne (show m ≠ Int.toNat 620 from m2), updz_ne m1, updz_ne m0]
    have v5 : V0 (410 + 15 * a + 5).toNat = Sz_time σ := by rw [← hV, updz_ne (by omega), updz_ne (by omega), updz_ne (by omega), updz_eq]
    have v4 : V0 (410 + 15 * a + 4).toNat = Rz_missedSoFar (Sz_readers σ a.toNat) + (Lz_first (Sz_log σ) - Rz_place (Sz_readers σ a.toNat)) := by rw [← hV, updz_ne (by omega), updz_ne (by omega), updz_eq]
    have v20 : V0 620 = Sz_missed σ + (Lz_first (Sz_log σ) - Rz_place (Sz_readers σ a.toNat)) := by rw [← hV, updz_ne (by omega)]; exact updz_eq
    have v1 : V0 (410 + 15 * a + 1).toNat = Lz_first (Sz_log σ) := by rw [← hV, updz_eq]
    have key : ∀ (f i : Nat) (V : Nat → Int), i + f = 8 → (∀ m : Nat, ¬ (410 + 15 * a + 7 ≤ m ∧ (m : Int) < 410 + 15 * a + 15) → V m = V0 m) → (∀ q : Int, 0 ≤ q → q < i → V (410 + 15 * a + 7 + q).toNat = Lz_dropValues (Sz_log σ) q.toNat) → ZL_M_goRead_66 (f + 1) a n (410 + 15 * a) (Lz_first (Sz_log σ) - Rz_place (Sz_readers σ a.toNat)) i V Q := by
      intro f
      induction f with
      | zero =>
        intro i V hi hVk hq
        rw [ZL_M_goRead_66]
        refine ⟨fun _ => ⟨by omega, ?_⟩, fun q => absurd q (by omega)⟩
        refine k1 (by omega) (fun m => V (410 + 15 * a + 7 + (m : Int)).toNat) V (fun q q0 q1 => ?_) ?_
        · show V (410 + 15 * a + 7 + ((q.toNat : Nat) : Int)).toNat = _
          rw [show ((q.toNat : Nat) : Int) = q by omega]
          exact hq q q0 (by omega)
        · -- the row of the state with the gap told
          have hR : Rel (Sz_seti_readers σ a.toNat ((fun m => V (410 + 15 * a + 7 + (m : Int)).toNat), Rz_present (Sz_readers σ a.toNat), Rz_hasLeft (Sz_readers σ a.toNat), Rz_held (Sz_readers σ a.toNat), Lz_first (Sz_log σ), Rz_readSoFar (Sz_readers σ a.toNat), Rz_missedSoFar (Sz_readers σ a.toNat) + (Lz_first (Sz_log σ) - Rz_place (Sz_readers σ a.toNat)), Sz_time σ, Rz_lostBy (Sz_readers σ a.toNat))) (updz V 620 (Sz_missed σ)) := by
            refine r.setr (by omega) h0 h1 (fun m m0 m1 => ?_) ?_
            · by_cases z : m = 620
              · rw [z, updz_eq]
                exact r.1.2.2.2.2.2.2.symm
              · rw [updz_ne z, hVk m (by omega), hk2 m (by omega) (by omega) z (by omega)]
            · unfold RelR
              rw [rd_eq]
              refine ⟨?_, fun _ => ⟨?_, ?_, ?_, ?_, ?_, ?_, fun q q0 q1 => ?_⟩, ?_, fun c => absurd (show Rz_present (Sz_readers σ a.toNat) = 0 from c) (by omega)⟩
              · rw [updz_ne (by omega), hVk _ (by omega), hk2 _ (by omega) (by omega) (by omega) (by omega)]; exact g1
              · rw [updz_ne (by omega), hVk _ (by omega)]; exact v1
              · rw [updz_ne (by omega), hVk _ (by omega), hk2 _ (by omega) (by omega) (by omega) (by omega)]; exact a2
              · rw [updz_ne (by omega), hVk _ (by omega), hk2 _ (by omega) (by omega) (by omega) (by omega)]; exact a3
              · rw [updz_ne (by omega), hVk _ (by omega)]; exact v4
              · rw [updz_ne (by omega), hVk _ (by omega)]; exact v5
              · rw [updz_ne (by omega), hVk _ (by omega), hk2 _ (by omega) (by omega) (by omega) (by omega)]; exact a6
              · rw [updz_ne (by omega)]
                show _ = V (410 + 15 * a + 7 + ((q.toNat : Nat) : Int)).toNat
                rw [show ((q.toNat : Nat) : Int) = q by omega]
              · rw [updz_ne (by omega), hVk _ (by omega), hk2 _ (by omega) (by omega) (by omega) (by omega)]; exact g3
          have hu : ∀ m : Nat, m ≠ 620 → updz V 620 (Sz_missed σ) m = V m := fun m z => updz_ne z
          obtain ⟨⟨q1, q2, q3, q4, q5, q6, q7⟩, p1, p2, p3, p4, p5⟩ := hR
          refine ⟨⟨q1, q2, q3, q4, q5, q6, ?_⟩, fun q q0 q1 => ?_, fun q q0 q1 => ?_, fun i i0 i1 => ?_, fun i i0 i1 => ?_, fun b b0 b1 => ?_⟩
          · show V 620 = _
            rw [hVk _ (by omega)]
            exact v20
          · rw [← hu _ (by omega)]; exact p1 q q0 q1
          · rw [← hu _ (by omega)]; exact p2 q q0 q1
          · have i1 : i < Lz_end (Sz_log σ) := i1
            obtain ⟨b, b1, b2, b3⟩ := p3 i i0 i1
            exact ⟨b, b1, b2, by rw [← hu _ (by omega)]; exact b3⟩
          · have i1 : i < Lz_end (Sz_log σ) := i1
            rw [← hu _ (by omega)]; exact p4 i i0 i1
          · exact (p5 b b0 b1).keep b0 b1 rfl (fun m m0 m1 => (hu m (by omega)).symm)
      | succ f ih =>
        intro i V hi hVk hq
        rw [ZL_M_goRead_66]
        refine ⟨fun q => absurd q (by omega), fun _ => ⟨by omega, by omega, by omega, by omega, by omega, ?_⟩⟩
        rintro _ rfl
        rw [hVk (402 + (i : Int)).toNat (by omega), hk2 _ (by omega) (by omega) (by omega) (by omega), r.2.1 i (by omega) (by omega)]
        refine ⟨by omega, ih (i + 1) _ (by omega) (fun m m0 => ?_) (fun q q0 q1 => ?_)⟩
        · rw [updz_ne (by omega)]
          exact hVk m m0
        · by_cases z : q = i
          · rw [z, updz_eq]
          · rw [updz_ne (by omega)]
            exact hq q q0 (by omega)
    have h9 := key 8 0 V0 rfl (fun _ _ => rfl) (fun q q0 q1 => absurd q1 (by omega))
    exact ⟨_, h9⟩
theorem m_goLeave {a : Int} {Q : Int → (Nat → Int) → Prop} (h : SOK σ T) (r : Rel σ W) (h0 : 0 ≤ a) (h1 : a < 8) (hp : Rz_present (Sz_readers σ a.toNat) = 1) (k : ∀ W', Rel (lvS σ a.toNat) W' → Q (readersN (lvS σ a.toNat)) W') : Z_M_goLeave a W Q := by
  have h3 := h.1.1
  obtain ⟨g1, g2, g3, g4⟩ := r.2.2.2.2.2 a h0 h1
  obtain ⟨a1, a2, a3, a4, a5, a6, a7⟩ := g2 hp
  have L64 : ∀ (V0 : Nat → Int), (∀ m : Nat, ¬ (410 + 15 * a ≤ m ∧ (m : Int) < 410 + 15 * a + 15) → ¬ (530 + 10 * a ≤ m ∧ (m : Int) < 530 + 10 * a + 10) → V0 m = W m) → V0 (530 + 10 * a).toNat = 1 → V0 (530 + 10 * a + 1).toNat = Rz_place (Sz_readers σ a.toNat) → (∀ q : Int, 0 ≤ q → q < 8 → V0 (530 + 10 * a + 2 + q).toNat = Rz_values (Sz_readers σ a.toNat) q.toNat) → ∃ n, ZL_M_goLeave_64 n a (410 + 15 * a) 0 V0 Q := by
    intro V0 hV v0 v1 v2
    have key : ∀ (f i : Nat) (V : Nat → Int), i + f = 15 → (∀ m : Nat, ¬ (410 + 15 * a ≤ m ∧ (m : Int) < 410 + 15 * a + i) → V m = V0 m) → (∀ q : Int, 0 ≤ q → q < i → V (410 + 15 * a + q).toNat = 0) → ZL_M_goLeave_64 (f + 1) a (410 + 15 * a) i V Q := by
      intro f
      induction f with
      | zero =>
        intro i V hi hVk hq
        rw [ZL_M_goLeave_64]
        have hR : Rel (lvS σ a.toNat) V := by
          refine r.setr (by omega) h0 h1 (fun m m0 m1 => by rw [hVk m (by omega)]; exact hV m m0 m1) ?_
          unfold RelR
          rw [rd_eq]
          refine ⟨?_, fun c => absurd (show (0 : Int) = 1 from c) (by decide), ?_, fun _ _ => ⟨?_, fun q q0 q1 => ?_⟩⟩
          · have := hq 0 (by omega) (by omega)
            rw [Int.add_zero] at this
            exact this
          · rw [hVk _ (by omega)]; exact v0
          · rw [hVk _ (by omega)]; exact v1
          · rw [hVk _ (by omega)]; exact v2 q q0 q1
        exact ⟨fun _ => m_readers (h.lv (by omega) hp) hR (k V hR), fun q => absurd q (by omega)⟩
      | succ f ih =>
        intro i V hi hVk hq
        rw [ZL_M_goLeave_64]
        refine ⟨fun q => absurd q (by omega), fun _ => ⟨by omega, by omega, ?_⟩⟩
        rintro _ rfl
        refine ⟨by omega, ih (i + 1) _ (by omega) (fun m m0 => ?_) (fun q q0 q1 => ?_)⟩
        · rw [updz_ne (by omega)]
          exact hVk m (by omega)
        · by_cases z : q = i
          · rw [z, updz_eq]
          · rw [updz_ne (by omega)]
            exact hq q q0 (by omega)
    have h9 := key 15 0 V0 rfl (fun _ _ => rfl) (fun q q0 q1 => absurd q1 (by omega))
    exact ⟨_, h9⟩
  refine m_reader h0 h1 ⟨by omega, by omega, by omega, ?_⟩
  rintro _ rfl
  refine ⟨by omega, by omega, by omega, by omega, ?_⟩
  rintro _ rfl
  rw [updz_ne (show (410 + 15 * a + 1).toNat ≠ (530 + 10 * a).toNat by omega), a1]
  have key : ∀ (f i : Nat) (V : Nat → Int), i + f = 8 → (∀ m : Nat, ¬ (530 + 10 * a ≤ m ∧ (m : Int) < 530 + 10 * a + 10) → V m = W m) → V (530 + 10 * a).toNat = 1 → V (530 + 10 * a + 1).toNat = Rz_place (Sz_readers σ a.toNat) → (∀ q : Int, 0 ≤ q → q < i → V (530 + 10 * a + 2 + q).toNat = Rz_values (Sz_readers σ a.toNat) q.toNat) → ZL_M_goLeave_31 (f + 1) a (410 + 15 * a) (530 + 10 * a) i V Q := by
    intro f
    induction f with
    | zero =>
      intro i V hi hVk v0 v1 hq
      rw [ZL_M_goLeave_31]
      exact ⟨fun _ => L64 V (fun m _ m1 => hVk m m1) v0 v1 (fun q q0 q1 => hq q q0 (by omega)), fun q => absurd q (by omega)⟩
    | succ f ih =>
      intro i V hi hVk v0 v1 hq
      rw [ZL_M_goLeave_31]
      refine ⟨fun q => absurd q (by omega), fun _ => ⟨by omega, by omega, by omega, by omega, by omega, by omega, ?_⟩⟩
      rintro _ rfl
      rw [hVk (410 + 15 * a + 7 + (i : Int)).toNat (by omega), a7 i (by omega) (by omega)]
      refine ⟨by omega, ih (i + 1) _ (by omega) (fun m m0 => ?_) ?_ ?_ (fun q q0 q1 => ?_)⟩
      · rw [updz_ne (by omega)]
        exact hVk m m0
      · rw [updz_ne (by omega)]; exact v0
      · rw [updz_ne (by omega)]; exact v1
      · by_cases z : q = i
        · rw [z, updz_eq]
        · rw [updz_ne (by omega)]
          exact hq q q0 (by omega)
  have h9 := key 8 0 (updz (updz W (530 + 10 * a).toNat 1) (530 + 10 * a + 1).toNat (Rz_place (Sz_readers σ a.toNat))) rfl (fun m m0 => by rw [updz_ne (by omega), updz_ne (by omega)]) (by rw [updz_ne (by omega), updz_eq]) updz_eq (fun q q0 q1 => absurd q1 (by omega))
  exact ⟨_, h9⟩
end PU

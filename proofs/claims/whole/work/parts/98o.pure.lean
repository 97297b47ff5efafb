/-! ### simulate -/
theorem ushr33 {x : Int} : 0 ≤ zushrZ x 33 ∧ zushrZ x 33 < 2147483648 := by
  have e : ((Int32.ofInt 33).toInt64.toUInt64 &&& Int64.toUInt64 63) = 33 := by decide
  have e2 : zushrZ x 33 = (((Int64.ofInt x).toUInt64 >>> 33).toInt64).toInt := by
    unfold zushrZ zushr
    rw [e]
  rw [e2]
  generalize (Int64.ofInt x).toUInt64 = u
  have hu := u.toNat_lt
  have h1 : (u >>> 33).toNat = u.toNat / 8589934592 := by
    rw [UInt64.toNat_shiftRight]
    show u.toNat >>> 33 = _
    rw [Nat.shiftRight_eq_div_pow]
  have h3 : ((u >>> 33).toInt64).toInt = ((u >>> 33).toNat : Int) := by
    show (u >>> 33).toBitVec.toInt = _
    rw [BitVec.toInt_eq_toNat_of_lt]
    · rfl
    · show 2 * (u >>> 33).toNat < 2 ^ 64
      rw [h1]
      omega
  rw [h3, h1]
  omega
abbrev nxX (x : Int) : Int := wl ((wl (x * 6364136223846793005)) + 1442695040888963407)
abbrev rnd (x : Int) : Int := wi (zushrZ (nxX x) 33)
theorem rnd_in {x : Int} : 0 ≤ rnd x := by
  have g := ushr33 (x := nxX x)
  show 0 ≤ wi (zushrZ (nxX x) 33)
  rw [wi_id (by omega)]
  exact g.1
/-- a turn -/
def turnR (σ : SZ) (r : Int) (σ' : SZ) : Prop :=
  ∃ u, (r % 16 ≤ 5 ∧ attR σ 0 (r / 16 % 8) (r / 16 / 8 % 100) (1 + r / 16 / 1024 % 40) u σ') ∨
    ((5 < r % 16 ∧ r % 16 ≤ 7) ∧ attR σ 1 (r / 16 % 8) (r / 16 / 8 % 3) (r / 16 / 32 % 2) u σ') ∨
    ((7 < r % 16 ∧ r % 16 ≤ 9) ∧ attR σ 2 (r / 16 % 8) (1 + r / 16 / 8 % 12) 0 u σ') ∨
    ((r % 16 = 10 ∧ r / 16 / 8 % 4 = 0) ∧ attR σ 3 (r / 16 % 8) 0 0 u σ') ∨
    ((r % 16 = 10 ∧ ¬ r / 16 / 8 % 4 = 0) ∧ attR σ 4 (r / 16 % 8) (r / 16 / 32 % 2) 0 u σ') ∨
    ((r % 16 = 11 ∧ r / 16 / 1024 % 2 = 0) ∧ attR σ 5 3 (r / 16 % 600) 0 u σ') ∨
    ((r % 16 = 11 ∧ ¬ r / 16 / 1024 % 2 = 0) ∧ attR σ 5 2 (r / 16 % 20) 0 u σ') ∨
    (11 < r % 16 ∧ attR σ 6 (1 + r / 16 % 8) 0 0 u σ')
/-- the way of a simulation -/
def simR : Nat → Int → SZ → SZ → Prop
  | 0, _, σ, τ => τ = σ
  | m + 1, x, σ, τ => ∃ σ', turnR σ (rnd x) σ' ∧ simR m (nxX x) σ' τ
section QR
variable {σ σ' : SZ} {v : TZ} {w : MZ} {T r : Int}
theorem turnR.ok (h : SOK σ T) (hT : T + 99 ≤ 5000000) (e : turnR σ r σ') : SOK σ' (T + 99) ∧ Sz_missed σ ≤ Sz_missed σ' := by
  obtain ⟨u, e⟩ := e
  rcases e with ⟨c, e⟩ | ⟨c, e⟩ | ⟨c, e⟩ | ⟨c, e⟩ | ⟨c, e⟩ | ⟨c, e⟩ | ⟨c, e⟩ | ⟨c, e⟩
  · have g := e.ok h hT trivial
    exact ⟨g.1, g.2.1⟩
  · have g := e.ok h hT (show r / 16 / 32 % 2 = 0 ∨ r / 16 / 32 % 2 = 1 by omega)
    exact ⟨g.1, g.2.1⟩
  · have g := e.ok h hT trivial
    exact ⟨g.1, g.2.1⟩
  · have g := e.ok h hT trivial
    exact ⟨g.1, g.2.1⟩
  · have g := e.ok h hT (show r / 16 / 32 % 2 = 0 ∨ r / 16 / 32 % 2 = 1 by omega)
    exact ⟨g.1, g.2.1⟩
  · have g := e.ok h hT trivial
    exact ⟨g.1, g.2.1⟩
  · have g := e.ok h hT trivial
    exact ⟨g.1, g.2.1⟩
  · have g := e.ok h hT trivial
    exact ⟨g.1, g.2.1⟩
theorem q_takeTurn {Q : SZ → Prop} (hr : 0 ≤ r) (h : SOK σ T) (hT : T + 99 ≤ 5000000) (k : ∀ σ', turnR σ r σ' → Q σ') : Z_T_takeTurn r σ Q := by
  have p0 : 0 ≤ r / 16 := by omega
  have p1 : 0 ≤ r / 16 / 8 := by omega
  have p2 : 0 ≤ r / 16 / 32 := by omega
  have p3 : 0 ≤ r / 16 / 1024 := by omega
  have J1 : (r % 16 = 11 → ¬ r / 16 / 1024 % 2 = 0) → (¬ r % 16 = 11 → 11 < r % 16) → ZJ_T_takeTurn_193 r (r / 16) (r % 16) σ Q := by
    intro c1 c2
    unfold ZJ_T_takeTurn_193
    simp only [Int.tmod_eq_emod_of_nonneg p0]
    exact ⟨fun c => ⟨by omega, q_attR (c := 6) (by decide) h hT trivial (fun u σ' e => k σ' ⟨u, Or.inr (Or.inr (Or.inr (Or.inr (Or.inr (Or.inr (Or.inr ⟨c2 c, e⟩))))))⟩)⟩, fun c => q_attR (c := 5) (by decide) h hT trivial (fun u σ' e => k σ' ⟨u, Or.inr (Or.inr (Or.inr (Or.inr (Or.inr (Or.inr (Or.inl ⟨⟨c, c1 c⟩, e⟩))))))⟩)⟩
  have J2 : 9 < r % 16 → (r % 16 = 10 → ¬ r / 16 / 8 % 4 = 0) → ZJ_T_takeTurn_135 r (r / 16) (r % 16) σ Q := by
    intro c0 c1
    unfold ZJ_T_takeTurn_135
    simp only [Int.tdiv_eq_ediv_of_nonneg p0, Int.tmod_eq_emod_of_nonneg p0, Int.tmod_eq_emod_of_nonneg p2, Int.tmod_eq_emod_of_nonneg p3]
    exact ⟨fun c => ⟨fun d => J1 (fun z => absurd z d) (fun _ => by omega), fun d => ⟨fun f => J1 (fun _ => f) (fun z => absurd d z), fun f => q_attR (c := 5) (by decide) h hT trivial (fun u σ' e => k σ' ⟨u, Or.inr (Or.inr (Or.inr (Or.inr (Or.inr (Or.inl ⟨⟨d, f⟩, e⟩)))))⟩)⟩⟩, fun c => q_attR (c := 4) (by decide) h hT (show r / 16 / 32 % 2 = 0 ∨ r / 16 / 32 % 2 = 1 by omega) (fun u σ' e => k σ' ⟨u, Or.inr (Or.inr (Or.inr (Or.inr (Or.inl ⟨⟨c, c1 c⟩, e⟩))))⟩)⟩
  unfold Z_T_takeTurn
  simp only [Int.tdiv_eq_ediv_of_nonneg hr, Int.tmod_eq_emod_of_nonneg hr, Int.tdiv_eq_ediv_of_nonneg p0, Int.tmod_eq_emod_of_nonneg p0, Int.tmod_eq_emod_of_nonneg p1, Int.tmod_eq_emod_of_nonneg p2, Int.tmod_eq_emod_of_nonneg p3]
  refine ⟨fun c5 => ⟨fun c7 => ⟨fun c9 => ⟨fun c => J2 c9 (fun z => absurd z c), fun c => ⟨fun d => J2 c9 (fun _ => d), fun d => q_attR (c := 3) (by decide) h hT trivial (fun u σ' e => k σ' ⟨u, Or.inr (Or.inr (Or.inr (Or.inl ⟨⟨c, d⟩, e⟩)))⟩)⟩⟩, fun c9 => ⟨by omega, q_attR (c := 2) (by decide) h hT trivial (fun u σ' e => k σ' ⟨u, Or.inr (Or.inr (Or.inl ⟨⟨c7, by omega⟩, e⟩))⟩)⟩⟩, fun c7 => q_attR (c := 1) (by decide) h hT (show r / 16 / 32 % 2 = 0 ∨ r / 16 / 32 % 2 = 1 by omega) (fun u σ' e => k σ' ⟨u, Or.inr (Or.inl ⟨⟨c5, by omega⟩, e⟩)⟩)⟩, fun c5 => ⟨by omega, q_attR (c := 0) (by decide) h hT trivial (fun u σ' e => k σ' ⟨u, Or.inl ⟨by omega, e⟩⟩)⟩⟩
theorem g_stir {Q : MZ → Prop} (hr : 0 ≤ r) (h : SOK σ T) (hT : T + 99 ≤ 5000000) (rl : Rel σ (Mz_trial w)) (e : turnR σ r σ') (k : ∀ W', Rel σ' W' → Q (Mz_set_trial w W')) : Z_M_stir r w Q := by
  have p0 : 0 ≤ r / 16 := by omega
  have p1 : 0 ≤ r / 16 / 8 := by omega
  have p2 : 0 ≤ r / 16 / 32 := by omega
  have p3 : 0 ≤ r / 16 / 1024 := by omega
  have hb : r / 16 / 32 % 2 = 0 ∨ r / 16 / 32 % 2 = 1 := by omega
  obtain ⟨u, e⟩ := e
  have A : r % 16 ≤ 5 → ZJ_M_stir_72 r (r / 16) w Q := by
    intro c
    have e0 : attR σ 0 (r / 16 % 8) (r / 16 / 8 % 100) (1 + r / 16 / 1024 % 40) u σ' := by
      rcases e with ⟨c, e⟩ | ⟨c, e⟩ | ⟨c, e⟩ | ⟨c, e⟩ | ⟨c, e⟩ | ⟨c, e⟩ | ⟨c, e⟩ | ⟨c, e⟩ <;> first | exact e | omega
    unfold ZJ_M_stir_72
    simp only [Int.tdiv_eq_ediv_of_nonneg p0, Int.tmod_eq_emod_of_nonneg p0, Int.tmod_eq_emod_of_nonneg p1, Int.tmod_eq_emod_of_nonneg p3]
    exact ⟨by omega, m_runWrite h hT rl e0 (fun W' r' => k W' r')⟩
  have B : 5 < r % 16 → r % 16 ≤ 7 → ZJ_M_stir_102 r (r / 16) w Q := by
    intro c c2
    have e0 : attR σ 1 (r / 16 % 8) (r / 16 / 8 % 3) (r / 16 / 32 % 2) u σ' := by
      rcases e with ⟨c, e⟩ | ⟨c, e⟩ | ⟨c, e⟩ | ⟨c, e⟩ | ⟨c, e⟩ | ⟨c, e⟩ | ⟨c, e⟩ | ⟨c, e⟩ <;> first | exact e | omega
    unfold ZJ_M_stir_102
    simp only [Int.tdiv_eq_ediv_of_nonneg p0, Int.tmod_eq_emod_of_nonneg p0, Int.tmod_eq_emod_of_nonneg p1, Int.tmod_eq_emod_of_nonneg p2]
    have go : ∀ b : Int, b = r / 16 / 32 % 2 → Z_M_runJoin (r / 16 % 8) (r / 16 / 8 % 3) b w (fun _ v28_ => Q v28_) := by
      intro b hb2
      subst hb2
      exact m_runJoin hb h hT rl e0 (fun W' r' => k W' r')
    exact ⟨fun z => go 0 (by omega), fun z => go 1 (by omega)⟩
  have C : 7 < r % 16 → r % 16 ≤ 9 → ZJ_M_stir_136 r (r / 16) w Q := by
    intro c c2
    have e0 : attR σ 2 (r / 16 % 8) (1 + r / 16 / 8 % 12) 0 u σ' := by
      rcases e with ⟨c, e⟩ | ⟨c, e⟩ | ⟨c, e⟩ | ⟨c, e⟩ | ⟨c, e⟩ | ⟨c, e⟩ | ⟨c, e⟩ | ⟨c, e⟩ <;> first | exact e | omega
    obtain ⟨u2, e1⟩ := e0.gf
    unfold ZJ_M_stir_136
    simp only [Int.tdiv_eq_ediv_of_nonneg p0, Int.tmod_eq_emod_of_nonneg p0, Int.tmod_eq_emod_of_nonneg p1]
    exact ⟨by omega, m_runRead h hT rl e1 (fun W' r' => k W' r')⟩
  unfold Z_M_stir
  simp only [Int.tdiv_eq_ediv_of_nonneg hr, Int.tmod_eq_emod_of_nonneg hr, Int.tdiv_eq_ediv_of_nonneg p0, Int.tmod_eq_emod_of_nonneg p0, Int.tmod_eq_emod_of_nonneg p1, Int.tmod_eq_emod_of_nonneg p2, Int.tmod_eq_emod_of_nonneg p3]
  refine ⟨fun c => A (by omega), fun c0 => ⟨fun c => A (by omega), fun c1 => ⟨fun c => A (by omega), fun c2 => ⟨fun c => A (by omega), fun c3 => ⟨fun c => A (by omega), fun c4 => ⟨fun c => A (by omega), fun c5 => ⟨fun c => B (by omega) (by omega), fun c6 => ⟨fun c => B (by omega) (by omega), fun c7 => ⟨fun c => C (by omega) (by omega), fun c8 => ⟨fun c => C (by omega) (by omega), fun c9 => ⟨fun c => ⟨fun d => ?_, fun d => ?_⟩, fun c10 => ⟨fun c => ⟨fun d => ?_, fun d => ?_⟩, fun c11 => ?_⟩⟩⟩⟩⟩⟩⟩⟩⟩⟩⟩⟩
  · have e0 : attR σ 4 (r / 16 % 8) (r / 16 / 32 % 2) 0 u σ' := by
      rcases e with ⟨c, e⟩ | ⟨c, e⟩ | ⟨c, e⟩ | ⟨c, e⟩ | ⟨c, e⟩ | ⟨c, e⟩ | ⟨c, e⟩ | ⟨c, e⟩ <;> first | exact e | omega
    have go : ∀ b : Int, b = r / 16 / 32 % 2 → Z_M_runHold (r / 16 % 8) b w (fun _ v28_ => Q v28_) := by
      intro b hb2
      subst hb2
      exact m_runHold hb h hT rl e0 (fun W' r' => k W' r')
    exact ⟨fun z => go 0 (by omega), fun z => go 1 (by omega)⟩
  · have e0 : attR σ 3 (r / 16 % 8) 0 0 u σ' := by
      rcases e with ⟨c, e⟩ | ⟨c, e⟩ | ⟨c, e⟩ | ⟨c, e⟩ | ⟨c, e⟩ | ⟨c, e⟩ | ⟨c, e⟩ | ⟨c, e⟩ <;> first | exact e | omega
    exact m_runLeave h hT rl e0 (fun W' r' => k W' r')
  · have e0 : attR σ 5 2 (r / 16 % 20) 0 u σ' := by
      rcases e with ⟨c, e⟩ | ⟨c, e⟩ | ⟨c, e⟩ | ⟨c, e⟩ | ⟨c, e⟩ | ⟨c, e⟩ | ⟨c, e⟩ | ⟨c, e⟩ <;> first | exact e | omega
    have o : setP 2 (r / 16 % 20) := ⟨by decide, show (0 : Int) ≤ r / 16 % 20 ∧ r / 16 % 20 ≤ (99 : Int) by omega⟩
    have of : fltA σ 5 2 (r / 16 % 20) 0 = 0 := if_pos o
    obtain ⟨-, x, e3⟩ := e0.yes of
    refine g_put h rl of e3 (fun W' r' => ?_)
    rintro _ rfl
    exact k W' r'
  · have e0 : attR σ 5 3 (r / 16 % 600) 0 u σ' := by
      rcases e with ⟨c, e⟩ | ⟨c, e⟩ | ⟨c, e⟩ | ⟨c, e⟩ | ⟨c, e⟩ | ⟨c, e⟩ | ⟨c, e⟩ | ⟨c, e⟩ <;> first | exact e | omega
    have o : setP 3 (r / 16 % 600) := ⟨by decide, show (0 : Int) ≤ r / 16 % 600 ∧ r / 16 % 600 ≤ (4000 : Int) by omega⟩
    have of : fltA σ 5 3 (r / 16 % 600) 0 = 0 := if_pos o
    obtain ⟨-, x, e3⟩ := e0.yes of
    refine g_put h rl of e3 (fun W' r' => ?_)
    rintro _ rfl
    exact k W' r'
  · have e0 : attR σ 6 (1 + r / 16 % 8) 0 0 u σ' := by
      rcases e with ⟨c, e⟩ | ⟨c, e⟩ | ⟨c, e⟩ | ⟨c, e⟩ | ⟨c, e⟩ | ⟨c, e⟩ | ⟨c, e⟩ | ⟨c, e⟩ <;> first | exact e | omega
    exact ⟨by omega, m_runTicks h hT rl e0 (fun W' r' => k W' r')⟩
abbrev resS (σ τ : SZ) : Int := 10000 * (Lz_dropped (Sz_log τ) - Lz_dropped (Sz_log σ)) + 100 * zminZ (Sz_missed τ - Sz_missed σ) 99 + readersN τ
theorem q_simLoop {s n T0 : Int} {X : String → TZ → Prop} {Q : Int → TZ → Prop} (h0s : SOK (Tz_state v) T0) (hn : n ≤ 60) : ∀ (m : Nat) (i x : Int) (σ : SZ) (T : Int), i + m = n → 0 ≤ i → SOK σ T → T + 99 * m ≤ 5000000 → Sz_missed (Tz_state v) ≤ Sz_missed σ → (∀ τ, simR m x σ τ → Q (resS (Tz_state v) τ) (Tz_set_trial v τ)) → ZL_T_simulate_32 (m + 1) s n n x i (Tz_set_trial v σ) X Q := by
  intro m
  induction m with
  | zero =>
    intro i x σ T hi h0 h hT hm k
    rw [ZL_T_simulate_32]
    have d1 := h.1.1
    have d2 := h0s.1.1
    have d3 := h.2.1
    have d4 := h0s.2.1
    have rn := readersN_in (σ := σ)
    have zm := zminZ_in (n := Sz_missed σ - Sz_missed (Tz_state v)) (m := 99) (by omega) (by decide)
    exact ⟨fun _ => q_readerCount (σ := σ) h ⟨by show -2147483648 ≤ Lz_dropped (Sz_log σ) - Lz_dropped (Sz_log (Tz_state v)) ∧ Lz_dropped (Sz_log σ) - Lz_dropped (Sz_log (Tz_state v)) < 2147483648; omega,
      by show -2147483648 ≤ 10000 * (Lz_dropped (Sz_log σ) - Lz_dropped (Sz_log (Tz_state v))) ∧ 10000 * (Lz_dropped (Sz_log σ) - Lz_dropped (Sz_log (Tz_state v))) < 2147483648; omega,
      by show -2147483648 ≤ Sz_missed σ - Sz_missed (Tz_state v) ∧ Sz_missed σ - Sz_missed (Tz_state v) < 2147483648; omega,
      by show -2147483648 ≤ 100 * zminZ (Sz_missed σ - Sz_missed (Tz_state v)) 99 ∧ 100 * zminZ (Sz_missed σ - Sz_missed (Tz_state v)) 99 < 2147483648; omega,
      by show -2147483648 ≤ 10000 * (Lz_dropped (Sz_log σ) - Lz_dropped (Sz_log (Tz_state v))) + 100 * zminZ (Sz_missed σ - Sz_missed (Tz_state v)) 99 ∧ 10000 * (Lz_dropped (Sz_log σ) - Lz_dropped (Sz_log (Tz_state v))) + 100 * zminZ (Sz_missed σ - Sz_missed (Tz_state v)) 99 < 2147483648; omega,
      by show -2147483648 ≤ 10000 * (Lz_dropped (Sz_log σ) - Lz_dropped (Sz_log (Tz_state v))) + 100 * zminZ (Sz_missed σ - Sz_missed (Tz_state v)) 99 + readersN σ ∧ 10000 * (Lz_dropped (Sz_log σ) - Lz_dropped (Sz_log (Tz_state v))) + 100 * zminZ (Sz_missed σ - Sz_missed (Tz_state v)) 99 + readersN σ < 2147483648; omega, k σ rfl⟩, fun c => absurd c (by omega)⟩
  | succ m ih =>
    intro i x σ T hi h0 h hT hm k
    rw [ZL_T_simulate_32]
    refine ⟨fun c => absurd c (by omega), fun _ => q_takeTurn (σ := σ) rnd_in h (by omega) (fun σ' e => ?_)⟩
    rintro _ rfl
    have e' := e.ok h (by omega)
    exact ⟨by omega, ih (i + 1) (nxX x) σ' (T + 99) (by omega) (by omega) e'.1 (by omega) (by omega) (fun τ p => k τ ⟨σ', e, p⟩)⟩
theorem m_simLoop {s n : Int} {σ0 τ : SZ} {T0 : Int} {Q : Int → MZ → Prop} (h0s : SOK σ0 T0) (e0 : Mz_now w (Int.toNat 620) = Sz_missed σ0) (e1 : Mz_now w (Int.toNat 617) = Lz_dropped (Sz_log σ0)) (hn : n ≤ 60) : ∀ (m : Nat) (i x : Int) (σ : SZ) (W : Nat → Int) (T : Int), i + m = n → 0 ≤ i → SOK σ T → T + 99 * m ≤ 5000000 → Sz_missed σ0 ≤ Sz_missed σ → Rel σ W → simR m x σ τ → (∀ W', Q (resS σ0 τ) (Mz_set_trial w W')) → ZL_M_simulate_43 (m + 1) s n n x i (Mz_set_trial w W) Q := by
  intro m
  induction m with
  | zero =>
    intro i x σ W T hi h0 h hT hm r p k
    have p : τ = σ := p
    subst p
    rw [ZL_M_simulate_43]
    have d1 := h.1.1
    have d2 := h0s.1.1
    have d3 := h.2.1
    have d4 := h0s.2.1
    have rn := readersN_in (σ := τ)
    have f0 : Mz_trial (Mz_set_trial w W) (Int.toNat 620) = Sz_missed τ := r.1.2.2.2.2.2.2
    have f1 : Mz_trial (Mz_set_trial w W) (Int.toNat 617) = Lz_dropped (Sz_log τ) := r.1.2.2.2.1
    have g0 : Mz_now (Mz_set_trial w W) (Int.toNat 620) = Sz_missed σ0 := e0
    have g1 : Mz_now (Mz_set_trial w W) (Int.toNat 617) = Lz_dropped (Sz_log σ0) := e1
    rw [f0, f1, g0, g1]
    refine ⟨fun _ => ⟨by decide, by decide, by decide, by decide, by omega, fun c => m_readers h r ⟨by omega, by omega, by omega, by omega, by omega, ?_⟩, fun c => m_readers h r ⟨by omega, by omega, by omega, by omega, by omega, ?_⟩⟩, fun c => absurd c (by omega)⟩
    · have z : zminZ (Sz_missed τ - Sz_missed σ0) 99 = Sz_missed τ - Sz_missed σ0 := if_neg (by omega)
      have k := k W
      unfold resS at k
      rw [z] at k
      exact k
    · have z : zminZ (Sz_missed τ - Sz_missed σ0) 99 = 99 := if_pos (by omega)
      have k := k W
      unfold resS at k
      rw [z] at k
      exact k
  | succ m ih =>
    intro i x σ W T hi h0 h hT hm r p k
    obtain ⟨σ', e, p⟩ := p
    rw [ZL_M_simulate_43]
    have e' := e.ok h (by omega)
    refine ⟨fun c => absurd c (by omega), fun _ => g_stir (σ := σ) (w := Mz_set_trial w W) rnd_in h (by omega) r e (fun W' r' => ⟨by omega, ?_⟩)⟩
    exact ih (i + 1) (nxX x) σ' W' (T + 99) (by omega) (by omega) e'.1 (by omega) (by omega) r' p k
theorem k_simulate {s a : Int} (h : SimZ T v w) (hT : T + 6000 ≤ 5000000) : Z_T_simulate s a v (fun E v' => exZ E False (Z_M_simulate s a w (finZ T 1 0 v')) False) (fun r v' => Z_M_simulate s a w (finZ T 0 r v')) := by
  have h1 := h.1.1
  refine q_isIn (fun a0 a1 => ⟨fun _ => q_copyToTry h1 (fun z hz => ?_), fun c => absurd c (by decide)⟩) (fun c => ⟨fun c2 => absurd rfl c2, fun _ => ex_iae (m_in (fun z1 z2 => absurd ⟨z1, z2⟩ c) (fun _ => ⟨fun _ => m_no (by decide) ⟨fun z => absurd z (by decide), fun _ => ⟨rfl, fun z => absurd z (by decide), h⟩⟩, fun z => absurd rfl z⟩))⟩)
  have hz1 := h1.eq hz
  have zm : Sz_missed z = Sz_missed (Tz_state v) := congrArg (fun q => q.2.2.2) hz.2.2.2
  refine ⟨_, q_simLoop (s := s) h1 a1 a.toNat 0 s z T (by omega) (by decide) hz1 (by omega) (by omega) (fun τ p => ?_)⟩
  refine m_in (fun _ _ => ⟨fun z => absurd z (by decide), fun _ => m_yes ⟨fun _ => m_copy (fun U hU => ?_), fun y => absurd rfl y⟩⟩) (fun z => absurd ⟨a0, a1⟩ z)
  rintro _ rfl
  exact ⟨_, m_simLoop (s := s) (σ0 := Tz_state v) (w := Mz_set_refusal w 0) h1 h.1.2.1.2.2.2.2.2.2 h.1.2.1.2.2.2.1 a1 a.toNat 0 s z U T (by omega) (by decide) hz1 (by omega) (by omega) ((h.1.2.eq h1 hz).weq hz1 hU) p (fun W' => ⟨rfl, fun _ => rfl, h⟩)⟩
end QR

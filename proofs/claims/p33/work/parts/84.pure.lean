/-! ### what an action makes of the state of the class -/
abbrev wrS (σ : SZ) (key val len : Int) : SZ := Sz_set_log σ (addX (if opens (Sz_log σ) len (Sz_settings σ 0) (Sz_settings σ 1) then openX (Sz_log σ) else Sz_log σ) key val len (Sz_time σ))
abbrev jnS (σ : SZ) (a : Nat) (vs : Nat → Int) (pl held : Int) : SZ := Sz_seti_readers σ a (vs, 1, Rz_hasLeft (Sz_readers σ a), held, pl, 0, 0, Sz_time σ, 0)
def JoinV (σ : SZ) (a : Nat) (how : Int) (vs : Nat → Int) (pl : Int) : Prop :=
  (how = 0 → pl = Lz_first (Sz_log σ) ∧ ∀ k : Int, 0 ≤ k → k < 8 → vs k.toNat = Lz_dropValues (Sz_log σ) k.toNat) ∧
  (how = 1 → pl = Lz_end (Sz_log σ) ∧ ∀ k : Int, 0 ≤ k → k < 8 → vs k.toNat = toldX (Sz_log σ) k (Lz_end (Sz_log σ))) ∧
  (how ≠ 0 → how ≠ 1 → pl = Rz_place (Sz_readers σ a) ∧ vs = Rz_values (Sz_readers σ a))
abbrev rdS (σ : SZ) (a : Nat) (n : Int) : SZ := Sz_seti_readers σ a (dropFn (Lz_keys (Sz_log σ)) (Lz_values (Sz_log σ)) n.toNat (Rz_place (Sz_readers σ a)) (Rz_values (Sz_readers σ a)), Rz_present (Sz_readers σ a), Rz_hasLeft (Sz_readers σ a), Rz_held (Sz_readers σ a), Rz_place (Sz_readers σ a) + n, Rz_readSoFar (Sz_readers σ a) + n, Rz_missedSoFar (Sz_readers σ a), Sz_time σ, Rz_lostBy (Sz_readers σ a))
abbrev gpS (σ : SZ) (a : Nat) (vs : Nat → Int) : SZ := Sz_set_missed (Sz_seti_readers σ a (vs, Rz_present (Sz_readers σ a), Rz_hasLeft (Sz_readers σ a), Rz_held (Sz_readers σ a), Lz_first (Sz_log σ), Rz_readSoFar (Sz_readers σ a), Rz_missedSoFar (Sz_readers σ a) + (Lz_first (Sz_log σ) - Rz_place (Sz_readers σ a)), Sz_time σ, Rz_lostBy (Sz_readers σ a))) (Sz_missed σ + (Lz_first (Sz_log σ) - Rz_place (Sz_readers σ a)))
abbrev lvS (σ : SZ) (a : Nat) : SZ := Sz_seti_readers σ a (Rz_set_held (Rz_set_hasLeft (Rz_set_present (Sz_readers σ a) 0) 1) 0)
abbrev hdS (σ : SZ) (a : Nat) (b : Int) : SZ := Sz_seti_readers σ a (Rz_set_lostBy (Rz_set_held (Sz_readers σ a) b) 0)
abbrev stS (σ : SZ) (what v : Int) : SZ := Sz_set_settings σ (updz (Sz_settings σ) what.toNat v)
theorem zminZ_in {n m : Int} (h0 : 0 ≤ n) (h1 : 0 ≤ m) : 0 ≤ zminZ n m ∧ zminZ n m ≤ n ∧ zminZ n m ≤ m := by
  by_cases q : m < n
  · have e : zminZ n m = m := if_pos q
    rw [e]
    omega
  · have e : zminZ n m = n := if_neg q
    rw [e]
    omega
section PQ
variable {σ : SZ} {T : Int}
theorem seti2 {a : Nat} {r1 r2 : RZ} : Sz_seti_readers (Sz_seti_readers σ a r1) a r2 = Sz_seti_readers σ a r2 := by
  have e : (fun j => if j = a then r2 else (if j = a then r1 else Sz_readers σ j)) = fun j => if j = a then r2 else Sz_readers σ j := by
    funext j
    by_cases q : j = a
    · rw [if_pos q, if_pos q]
    · rw [if_neg q, if_neg q, if_neg q]
  exact congrArg (Sz_set_readers σ) e
theorem SOK.up (h : SOK σ T) (hT : T + 1 ≤ 5000000) : SOK σ (T + 1) := by
  have h2 := h.2.1
  exact ⟨h.1, by omega, h.2.2.1, fun n hn => (h.2.2.2 n hn).to rfl (Int.le_refl _) (Int.le_refl _) (by omega)⟩
theorem SOK.wr {key val len : Int} (h : SOK σ T) (he : Lz_end (Sz_log σ) < 200) (hk : 0 ≤ key ∧ key < 8) (hv : 0 ≤ val ∧ val < 100) (hl : 1 ≤ len ∧ len ≤ 40) : SOK (wrS σ key val len) T := by
  have h2 := h.2.1
  have hL : LOK (addX (if opens (Sz_log σ) len (Sz_settings σ 0) (Sz_settings σ 1) then openX (Sz_log σ) else Sz_log σ) key val len (Sz_time σ)) (Sz_time σ) := by
    split
    · exact h.1.openAdd he hk hv hl ⟨h2.1, Int.le_refl _⟩ (Int.le_refl _)
    · rename_i c
      have h1 := h.1.1
      exact h.1.add he hk hv hl ⟨h2.1, Int.le_refl _⟩ (Int.le_refl _) (by
        rcases Int.lt_or_le 0 (Lz_begun (Sz_log σ)) with q | q
        · exact q
        · exact absurd (Or.inl (by omega)) c)
  have e1 : Lz_first (addX (if opens (Sz_log σ) len (Sz_settings σ 0) (Sz_settings σ 1) then openX (Sz_log σ) else Sz_log σ) key val len (Sz_time σ)) = Lz_first (Sz_log σ) := by
    split <;> rfl
  have e2 : Lz_end (addX (if opens (Sz_log σ) len (Sz_settings σ 0) (Sz_settings σ 1) then openX (Sz_log σ) else Sz_log σ) key val len (Sz_time σ)) = Lz_end (Sz_log σ) + 1 := by
    split <;> rfl
  exact ⟨hL, h2, h.2.2.1, fun n hn => (h.2.2.2 n hn).to e1 (by rw [show Lz_end (Sz_log (wrS σ key val len)) = Lz_end (Sz_log σ) + 1 from e2]; omega) (Int.le_refl _) (Int.le_refl _)⟩
theorem q_write {key val len : Int} {Q : Int → SZ → Prop} (h : SOK σ T) (he : Lz_end (Sz_log σ) < 200) (hl : 1 ≤ len ∧ len ≤ 40) (k : Q (Lz_end (Sz_log σ)) (wrS σ key val len)) : Z_S_perform 0 key val len σ Q := by
  have h1 := h.1.1
  have h5 := h.1.len
  have h6 := h.1.bel0 (j := Lz_end (Sz_log σ)) (by omega) (by omega)
  unfold Z_S_perform
  refine ⟨fun _ => q_at (by decide) (by omega) (by omega) (q_at (by decide) (by omega) (by omega) (q_mkRoom h.1 (by omega) he (fun c => ?_) (fun c => ?_))), fun c => absurd rfl c⟩
  · rintro _ rfl
    refine q_add (by show 0 ≤ Lz_end (Sz_log σ); omega) he (by show 0 ≤ Lz_lengthsBelow (Sz_log σ) (Lz_end (Sz_log σ)).toNat ∧ Lz_lengthsBelow (Sz_log σ) (Lz_end (Sz_log σ)).toNat ≤ 8000; omega) h5 (by omega) ?_
    rintro _ rfl
    have e : wrS σ key val len = Sz_set_log σ (addX (openX (Sz_log σ)) key val len (Sz_time σ)) := congrArg (fun y => Sz_set_log σ (addX y key val len (Sz_time σ))) (if_pos c)
    rw [e] at k
    exact k
  · rintro _ rfl
    refine q_add (by show 0 ≤ Lz_end (Sz_log σ); omega) he (by show 0 ≤ Lz_lengthsBelow (Sz_log σ) (Lz_end (Sz_log σ)).toNat ∧ Lz_lengthsBelow (Sz_log σ) (Lz_end (Sz_log σ)).toNat ≤ 8000; omega) h5 (by omega) ?_
    rintro _ rfl
    have e : wrS σ key val len = Sz_set_log σ (addX (Sz_log σ) key val len (Sz_time σ)) := congrArg (fun y => Sz_set_log σ (addX y key val len (Sz_time σ))) (if_neg c)
    rw [e] at k
    exact k
theorem q_arrive {r : RZ} {time held : Int} {Q : RZ → Prop} (hh : held = 0 ∨ held = 1) (k : Q (Rz_values r, 1, Rz_hasLeft r, held, Rz_place r, 0, 0, time, 0)) : Z_R_arrive time held r Q := by
  unfold Z_R_arrive
  rintro _ rfl
  refine ⟨hh, ?_⟩
  rintro _ rfl _ rfl _ rfl _ rfl _ rfl
  exact k
theorem q_letIn {a : Nat} {how held : Int} {Q : Int → SZ → Prop} (h : SOK σ T) (hh : held = 0 ∨ held = 1) (k : ∀ vs pl, JoinV σ a how vs pl → Q pl (jnS σ a vs pl held)) : Z_S_letIn (some a) how held σ Q := by
  have h1 := h.1.1
  unfold Z_S_letIn
  refine ⟨fun c => (nomatch c), fun i c => ?_⟩
  cases c
  refine ⟨fun c0 => ⟨fun c1 => q_arrive hh ?_, fun c1 => ?_⟩, fun c0 => ?_⟩
  · rintro _ rfl
    rw [rd_eq]
    exact k _ _ ⟨fun q => absurd q c0, fun q => absurd q c1, fun _ _ => ⟨rfl, rfl⟩⟩
  · rintro _ rfl
    -- the values are told one by one
    have key : ∀ (n i : Nat) (vs : Nat → Int), i + n = 8 → (∀ m : Int, 0 ≤ m → m < i → vs m.toNat = toldX (Sz_log σ) m (Lz_end (Sz_log σ))) → ZL_S_letIn_57 (n + 1) (some a) how held a held i (Sz_seti_readers σ a (Rz_set_values (Rz_set_place (Sz_readers σ a) (Lz_end (Sz_log σ))) vs)) Q := by
      intro n
      induction n with
      | zero =>
        intro i vs hi hv
        rw [ZL_S_letIn_57]
        refine ⟨fun _ => ?_, fun c => absurd c (by omega)⟩
        rw [rd_eq]
        refine q_arrive hh ?_
        rintro _ rfl
        rw [rd_eq, seti2]
        exact k _ _ ⟨fun q => absurd q c0, fun _ => ⟨rfl, fun m m0 m1 => hv m m0 (by omega)⟩, fun _ q => absurd c1 q⟩
      | succ n ih =>
        intro i vs hi hv
        rw [ZL_S_letIn_57]
        refine ⟨fun c => absurd c (by omega), fun _ => q_toldForwards h.1 (by omega) (by omega) (by show Lz_first (Sz_log σ) ≤ Lz_end (Sz_log σ); omega) (Int.le_refl _) (q_put (by decide) (by omega) (by omega) ?_)⟩
        rintro _ rfl
        rw [rd_eq, seti2]
        refine ⟨by omega, ih (i + 1) _ (by omega) (fun m m0 m1 => ?_)⟩
        by_cases z : m = i
        · rw [z]
          exact updz_eq
        · have e : updz vs ((i : Int)).toNat (toldX (Sz_log σ) i (Lz_end (Sz_log σ))) m.toNat = vs m.toNat := updz_ne (by omega)
          exact e.trans (hv m m0 (by omega))
    exact ⟨_, key 8 0 (Rz_values (Sz_readers σ a)) rfl (fun m m0 m1 => absurd m1 (by omega))⟩
  · rintro _ rfl
    refine q_copy (by decide) ?_
    rintro _ rfl
    rw [rd_eq, seti2, rd_eq]
    refine q_arrive hh ?_
    rintro _ rfl
    rw [rd_eq, seti2]
    exact k _ _ ⟨fun _ => ⟨rfl, fun m m0 m1 => zcpz_lt (by omega)⟩, fun q => absurd q (by omega), fun q => absurd c0 q⟩
theorem SOK.jn {a : Nat} {vs : Nat → Int} {pl held : Int} (h : SOK σ T) (hh : held = 0 ∨ held = 1) (hp : 0 ≤ pl ∧ pl ≤ Lz_end (Sz_log σ)) (hf : held = 1 → Lz_first (Sz_log σ) ≤ pl) (ha : a < 8) : SOK (jnS σ a vs pl held) T := by
  have h2 := h.2.1
  refine h.seti ⟨Or.inr rfl, (h.2.2.2 a ha).2.1, hh, fun c => ⟨rfl, hf c⟩, fun _ => hp, fun _ => ?_⟩
  show (0 : Int) ≤ 0 ∧ (0 : Int) ≤ 200 * T ∧ (0 : Int) ≤ 0 ∧ (0 : Int) ≤ 200 * T ∧ 0 ≤ Sz_time σ ∧ Sz_time σ ≤ Sz_time σ
  omega
theorem q_letRead {a : Nat} {n : Int} {Q : Int → SZ → Prop} (h : SOK σ T) (ha : a < 8) (hp : Rz_present (Sz_readers σ a) = 1) (hn : 1 ≤ n ∧ n ≤ 50)
    (k0 : Lz_first (Sz_log σ) ≤ Rz_place (Sz_readers σ a) → Q (zminZ n (Lz_end (Sz_log σ) - Rz_place (Sz_readers σ a))) (rdS σ a (zminZ n (Lz_end (Sz_log σ) - Rz_place (Sz_readers σ a)))))
    (k1 : Rz_place (Sz_readers σ a) < Lz_first (Sz_log σ) → ∀ vs, (∀ k : Int, 0 ≤ k → k < 8 → vs k.toNat = Lz_dropValues (Sz_log σ) k.toNat) → Q (-(Lz_first (Sz_log σ) - Rz_place (Sz_readers σ a))) (gpS σ a vs)) : Z_S_letRead (some a) n σ Q := by
  have h1 := h.1.1
  have h2 := h.2.1
  have hr := h.2.2.2 a ha
  have h5 := hr.2.2.2.2.1 (Or.inl hp)
  have h6 := hr.2.2.2.2.2 hp
  unfold Z_S_letRead
  refine ⟨fun c => (nomatch c), fun i c => ?_⟩
  cases c
  rintro _ rfl
  rw [rd_eq]
  refine ⟨fun c0 => ?_, fun c0 => ?_⟩
  · have c0 : Lz_first (Sz_log σ) ≤ Rz_place (Sz_readers σ a) := c0
    have hm0 := zminZ_in (n := n) (m := Lz_end (Sz_log σ) - Rz_place (Sz_readers σ a)) (by omega) (by omega)
    have hm : 0 ≤ zminZ n (Lz_end (Sz_log σ) - Rz_place (Sz_readers σ a)) ∧ zminZ n (Lz_end (Sz_log σ) - Rz_place (Sz_readers σ a)) ≤ 50 ∧ zminZ n (Lz_end (Sz_log σ) - Rz_place (Sz_readers σ a)) ≤ Lz_end (Sz_log σ) - Rz_place (Sz_readers σ a) := ⟨hm0.1, Int.le_trans hm0.2.1 (by omega), hm0.2.2⟩
    refine ⟨by show -2147483648 ≤ Lz_end (Sz_log σ) - Rz_place (Sz_readers σ a) ∧ Lz_end (Sz_log σ) - Rz_place (Sz_readers σ a) < 2147483648; omega, ?_⟩
    have k0 := k0 c0
    show Z_S_readOn a (zminZ n (Lz_end (Sz_log σ) - Rz_place (Sz_readers σ a))) _ _
    generalize zminZ n (Lz_end (Sz_log σ) - Rz_place (Sz_readers σ a)) = y at k0 hm
    have key : ∀ (f : Nat) (i : Int) (vs : Nat → Int), i + f = y → 0 ≤ i → dropFn (Lz_keys (Sz_log σ)) (Lz_values (Sz_log σ)) f (Rz_place (Sz_readers σ a) + i) vs = dropFn (Lz_keys (Sz_log σ)) (Lz_values (Sz_log σ)) y.toNat (Rz_place (Sz_readers σ a)) (Rz_values (Sz_readers σ a)) → ZL_S_readOn_2 (f + 1) a y y i (Sz_seti_readers σ a (Rz_set_values (Rz_set_lastRead (Sz_readers σ a) (Sz_time σ)) vs)) (fun r12_ v16_ => Q r12_ v16_) := by
      intro f
      induction f with
      | zero =>
        intro i vs hi i0 hv
        have hv : vs = dropFn (Lz_keys (Sz_log σ)) (Lz_values (Sz_log σ)) y.toNat (Rz_place (Sz_readers σ a)) (Rz_values (Sz_readers σ a)) := hv
        rw [ZL_S_readOn_2, rd_eq]
        refine ⟨fun _ => ⟨by show -2147483648 ≤ Rz_place (Sz_readers σ a) + y ∧ Rz_place (Sz_readers σ a) + y < 2147483648; omega, ?_⟩, fun c => absurd c (by omega)⟩
        rintro _ rfl
        rw [rd_eq, seti2]
        refine ⟨by show -2147483648 ≤ Rz_readSoFar (Sz_readers σ a) + y ∧ Rz_readSoFar (Sz_readers σ a) + y < 2147483648; omega, ?_⟩
        rintro _ rfl
        rw [seti2, hv]
        exact k0
      | succ f ih =>
        intro i vs hi i0 hv
        have h7 := h.1.2.2.2.2.1 (Rz_place (Sz_readers σ a) + i).toNat (by omega)
        rw [ZL_S_readOn_2, rd_eq]
        refine ⟨fun c => absurd c (by omega), fun _ => ⟨by show -2147483648 ≤ Rz_place (Sz_readers σ a) + i ∧ Rz_place (Sz_readers σ a) + i < 2147483648; omega, ?_⟩⟩
        refine q_at (by decide) (by show 0 ≤ Rz_place (Sz_readers σ a) + i; omega) (by show Rz_place (Sz_readers σ a) + i < 200; omega) (q_at (by decide) (by show 0 ≤ Rz_place (Sz_readers σ a) + i; omega) (by show Rz_place (Sz_readers σ a) + i < 200; omega) (q_put (by decide) h7.1 h7.2.1 ?_))
        rintro _ rfl
        rw [seti2]
        refine ⟨by omega, ih (i + 1) _ (by omega) (by omega) ?_⟩
        rw [← hv, show Rz_place (Sz_readers σ a) + (i + 1) = Rz_place (Sz_readers σ a) + i + 1 by omega]
        rfl
    have h9 := key y.toNat 0 (Rz_values (Sz_readers σ a)) (by omega) (by omega) (by rw [Int.add_zero])
    exact ⟨_, h9⟩
  · have c0 : ¬ Lz_first (Sz_log σ) ≤ Rz_place (Sz_readers σ a) := c0
    unfold Z_S_tellGap
    rw [rd_eq]
    refine ⟨by show -2147483648 ≤ Lz_first (Sz_log σ) - Rz_place (Sz_readers σ a) ∧ Lz_first (Sz_log σ) - Rz_place (Sz_readers σ a) < 2147483648; omega, by show -2147483648 ≤ Rz_missedSoFar (Sz_readers σ a) + (Lz_first (Sz_log σ) - Rz_place (Sz_readers σ a)) ∧ Rz_missedSoFar (Sz_readers σ a) + (Lz_first (Sz_log σ) - Rz_place (Sz_readers σ a)) < 2147483648; omega, ?_⟩
    rintro _ rfl
    rw [seti2]
    refine ⟨by show -2147483648 ≤ Sz_missed σ + (Lz_first (Sz_log σ) - Rz_place (Sz_readers σ a)) ∧ Sz_missed σ + (Lz_first (Sz_log σ) - Rz_place (Sz_readers σ a)) < 2147483648; omega, ?_⟩
    rintro _ rfl _ rfl
    refine q_copy (by decide) ?_
    rintro _ rfl
    refine ⟨by show -2147483648 ≤ -(Lz_first (Sz_log σ) - Rz_place (Sz_readers σ a)) ∧ -(Lz_first (Sz_log σ) - Rz_place (Sz_readers σ a)) < 2147483648; omega, ?_⟩
    have k1 := k1 (by omega) (zcpz 8 (Lz_dropValues (Sz_log σ)) (Rz_values (Sz_readers σ a))) (fun m m0 m1 => zcpz_lt (by omega))
    have e : ∀ (r1 r2 r3 : RZ) (m : Int), Sz_seti_readers (Sz_seti_readers (Sz_set_missed (Sz_seti_readers σ a r1) m) a r2) a r3 = Sz_set_missed (Sz_seti_readers σ a r3) m := by
      intro r1 r2 r3 m
      rw [seti2]
      have e2 : (fun j => if j = a then r3 else (if j = a then r1 else Sz_readers σ j)) = fun j => if j = a then r3 else Sz_readers σ j := by
        funext j
        by_cases q : j = a
        · rw [if_pos q, if_pos q]
        · rw [if_neg q, if_neg q, if_neg q]
      exact congrArg (fun f => Sz_set_missed (Sz_set_readers σ f) m) e2
    rw [e, rd_eq]
    have e3 : ∀ (r1 : RZ) (m : Int), Sz_readers (Sz_set_missed (Sz_seti_readers σ a r1) m) a = r1 := fun r1 m => if_pos rfl
    rw [e3]
    exact k1
theorem SOK.rd {a : Nat} {n : Int} (h : SOK σ T) (hT : T + 1 ≤ 5000000) (ha : a < 8) (hp : Rz_present (Sz_readers σ a) = 1) (hn : 0 ≤ n ∧ n ≤ 50 ∧ n ≤ Lz_end (Sz_log σ) - Rz_place (Sz_readers σ a)) : SOK (rdS σ a n) (T + 1) := by
  have h2 := h.2.1
  have hr := h.2.2.2 a ha
  have h5 := hr.2.2.2.2.1 (Or.inl hp)
  have h6 := hr.2.2.2.2.2 hp
  refine (h.up hT).seti ⟨hr.1, hr.2.1, hr.2.2.1, fun c => ⟨hp, ?_⟩, fun _ => ?_, fun _ => ?_⟩
  · have := hr.2.2.2.1 c
    show Lz_first (Sz_log σ) ≤ Rz_place (Sz_readers σ a) + n
    omega
  · show 0 ≤ Rz_place (Sz_readers σ a) + n ∧ Rz_place (Sz_readers σ a) + n ≤ Lz_end (Sz_log σ)
    omega
  · show 0 ≤ Rz_readSoFar (Sz_readers σ a) + n ∧ Rz_readSoFar (Sz_readers σ a) + n ≤ 200 * (T + 1) ∧ 0 ≤ Rz_missedSoFar (Sz_readers σ a) ∧ Rz_missedSoFar (Sz_readers σ a) ≤ 200 * (T + 1) ∧ 0 ≤ Sz_time σ ∧ Sz_time σ ≤ Sz_time σ
    omega
theorem SOK.gp {a : Nat} {vs : Nat → Int} (h : SOK σ T) (hT : T + 1 ≤ 5000000) (ha : a < 8) (hp : Rz_present (Sz_readers σ a) = 1) (hg : Rz_place (Sz_readers σ a) < Lz_first (Sz_log σ)) : SOK (gpS σ a vs) (T + 1) := by
  have h1 := h.1.1
  have h2 := h.2.1
  have hr := h.2.2.2 a ha
  have h5 := hr.2.2.2.2.1 (Or.inl hp)
  have h6 := hr.2.2.2.2.2 hp
  have hs := (h.up hT).seti (e := a) (r := (vs, Rz_present (Sz_readers σ a), Rz_hasLeft (Sz_readers σ a), Rz_held (Sz_readers σ a), Lz_first (Sz_log σ), Rz_readSoFar (Sz_readers σ a), Rz_missedSoFar (Sz_readers σ a) + (Lz_first (Sz_log σ) - Rz_place (Sz_readers σ a)), Sz_time σ, Rz_lostBy (Sz_readers σ a))) ⟨hr.1, hr.2.1, hr.2.2.1, fun c => ⟨hp, Int.le_refl _⟩, fun _ => by
      show 0 ≤ Lz_first (Sz_log σ) ∧ Lz_first (Sz_log σ) ≤ Lz_end (Sz_log σ)
      omega, fun _ => by
      show 0 ≤ Rz_readSoFar (Sz_readers σ a) ∧ Rz_readSoFar (Sz_readers σ a) ≤ 200 * (T + 1) ∧ 0 ≤ Rz_missedSoFar (Sz_readers σ a) + (Lz_first (Sz_log σ) - Rz_place (Sz_readers σ a)) ∧ Rz_missedSoFar (Sz_readers σ a) + (Lz_first (Sz_log σ) - Rz_place (Sz_readers σ a)) ≤ 200 * (T + 1) ∧ 0 ≤ Sz_time σ ∧ Sz_time σ ≤ Sz_time σ
      omega⟩
  refine ⟨hs.1, ?_, hs.2.2.1, hs.2.2.2⟩
  show 0 ≤ Sz_time σ ∧ Sz_time σ ≤ T + 1 ∧ 0 ≤ Sz_lostByLength σ ∧ Sz_lostByLength σ ≤ 8 * (T + 1) ∧ 0 ≤ Sz_lostBySleep σ ∧ Sz_lostBySleep σ ≤ 8 * (T + 1) ∧ 0 ≤ Sz_missed σ + (Lz_first (Sz_log σ) - Rz_place (Sz_readers σ a)) ∧ Sz_missed σ + (Lz_first (Sz_log σ) - Rz_place (Sz_readers σ a)) ≤ 200 * (T + 1) ∧ T + 1 ≤ 5000000
  omega
theorem SOK.lv {a : Nat} (h : SOK σ T) (ha : a < 8) (hp : Rz_present (Sz_readers σ a) = 1) : SOK (lvS σ a) T := by
  have hr := h.2.2.2 a ha
  exact h.seti ⟨Or.inl rfl, Or.inr rfl, Or.inl rfl, fun c => absurd (show (0 : Int) = 1 from c) (by decide), fun _ => hr.2.2.2.2.1 (Or.inl hp), fun c => absurd (show (0 : Int) = 1 from c) (by decide)⟩
theorem q_letGo {a : Nat} {Q : Int → SZ → Prop} (h : SOK σ T) (ha : a < 8) (hp : Rz_present (Sz_readers σ a) = 1) (k : Q (readersN (lvS σ a)) (lvS σ a)) : Z_S_letGo (some a) σ Q := by
  unfold Z_S_letGo
  refine ⟨fun c => (nomatch c), fun i c => ?_⟩
  cases c
  unfold Z_R_depart
  rintro _ rfl _ rfl _ rfl _ rfl
  exact q_readerCount (h.lv ha hp) k
theorem SOK.hd {a : Nat} {b : Int} (h : SOK σ T) (ha : a < 8) (hp : Rz_present (Sz_readers σ a) = 1) (hb : b = 0 ∨ b = 1) (hg : b = 1 → Lz_first (Sz_log σ) ≤ Rz_place (Sz_readers σ a)) : SOK (hdS σ a b) T := by
  have hr := h.2.2.2 a ha
  exact h.seti ⟨hr.1, hr.2.1, hb, fun c => ⟨hp, hg c⟩, hr.2.2.2.2.1, hr.2.2.2.2.2⟩
theorem q_changeHold {a : Nat} {b : Int} {Q : Int → SZ → Prop} (h : SOK σ T) (ha : a < 8) (hb : b = 0 ∨ b = 1) (k : Q (Rz_held (Sz_readers σ a)) (hdS σ a b)) : Z_S_changeHold (some a) b σ Q := by
  have hr := h.2.2.2 a ha
  unfold Z_S_changeHold
  refine ⟨fun c => (nomatch c), fun i c => ?_⟩
  cases c
  refine q_asNumber (fun c => ⟨hb, ?_⟩) (fun c => ⟨hb, ?_⟩)
  · rintro _ rfl _ rfl
    rw [rd_eq, seti2]
    rw [c] at k
    exact k
  · rintro _ rfl _ rfl
    rw [rd_eq, seti2]
    rw [show Rz_held (Sz_readers σ a) = 1 by rcases hr.2.2.1 with q | q <;> omega] at k
    exact k
theorem q_change {what v : Int} {Q : Int → SZ → Prop} (h0 : 0 ≤ what) (h1 : what ≤ 5) (k : Q (Sz_settings σ what.toNat) (stS σ what v)) : Z_S_change what v σ Q := by
  unfold Z_S_change
  refine q_at (by decide) h0 (by omega) (q_put (by decide) h0 (by omega) ?_)
  rintro _ rfl
  exact k
end PQ
/-! ### the model joins, reads, leaves -/
section PU
variable {σ : SZ} {T : Int}
theorem dropFn_snoc {K V : Nat → Int} : ∀ (n : Nat) (i : Int) (d : Nat → Int), dropFn K V (n + 1) i d = updz (dropFn K V n i d) (K (i + n).toNat).toNat (V (i + n).toNat) := by
  intro n
  induction n with
  | zero =>
    intro i d
    rw [show i + ((0 : Nat) : Int) = i by omega]
    rfl
  | succ n ih =>
    intro i d
    have e := ih (i + 1) (updz d (K i.toNat).toNat (V i.toNat))
    rw [show i + 1 + (n : Int) = i + ((n + 1 : Nat) : Int) by omega] at e
    exact e
end PU
/-! ### a state taken over -/
def REq (r s : RZ) : Prop := (∀ k : Nat, k < 8 → Rz_values r k = Rz_values s k) ∧ r.2 = s.2
def SEq (x y : SZ) : Prop := LEq (Sz_log x) (Sz_log y) ∧ (∀ n : Nat, n < 8 → REq (Sz_readers x n) (Sz_readers y n)) ∧ (∀ k : Nat, k < 6 → Sz_settings x k = Sz_settings y k) ∧ x.2.2.2 = y.2.2.2
section PT
variable {x y : SZ} {T : Int}
theorem LEq.refl {u : LZ} : LEq u u := ⟨⟨rfl, rfl, rfl, rfl, rfl⟩, fun _ _ => ⟨rfl, rfl, rfl, rfl⟩, fun _ _ => rfl, fun _ _ => rfl⟩
theorem SEq.refl : SEq x x := ⟨LEq.refl, fun _ _ => ⟨fun _ _ => rfl, rfl⟩, fun _ _ => rfl, rfl⟩
theorem SOK.eq (h : SOK y T) (e : SEq x y) : SOK x T := by
  obtain ⟨e1, e2, e3, e4⟩ := e
  have t : Sz_time x = Sz_time y := congrArg (fun q => q.1) e4
  have t2 : Sz_lostByLength x = Sz_lostByLength y := congrArg (fun q => q.2.1) e4
  have t3 : Sz_lostBySleep x = Sz_lostBySleep y := congrArg (fun q => q.2.2.1) e4
  have t4 : Sz_missed x = Sz_missed y := congrArg (fun q => q.2.2.2) e4
  refine ⟨by rw [t]; exact h.1.congr e1, by rw [t, t2, t3, t4]; exact h.2.1, ?_, fun n hn => ?_⟩
  · unfold SetOK
    rw [e3 0 (by decide), e3 1 (by decide), e3 2 (by decide), e3 3 (by decide), e3 4 (by decide), e3 5 (by decide)]
    exact h.2.2.1
  · have g := h.2.2.2 n hn
    have e5 := (e2 n hn).2
    have p1 : Rz_present (Sz_readers x n) = Rz_present (Sz_readers y n) := congrArg (fun q => q.1) e5
    have p2 : Rz_hasLeft (Sz_readers x n) = Rz_hasLeft (Sz_readers y n) := congrArg (fun q => q.2.1) e5
    have p3 : Rz_held (Sz_readers x n) = Rz_held (Sz_readers y n) := congrArg (fun q => q.2.2.1) e5
    have p4 : Rz_place (Sz_readers x n) = Rz_place (Sz_readers y n) := congrArg (fun q => q.2.2.2.1) e5
    have p5 : Rz_readSoFar (Sz_readers x n) = Rz_readSoFar (Sz_readers y n) := congrArg (fun q => q.2.2.2.2.1) e5
    have p6 : Rz_missedSoFar (Sz_readers x n) = Rz_missedSoFar (Sz_readers y n) := congrArg (fun q => q.2.2.2.2.2.1) e5
    have p7 : Rz_lastRead (Sz_readers x n) = Rz_lastRead (Sz_readers y n) := congrArg (fun q => q.2.2.2.2.2.2.1) e5
    unfold ROK
    rw [p1, p2, p3, p4, p5, p6, p7, t, e1.1.1, e1.1.2.1]
    exact g
theorem q_R_takeOver {r s : RZ} {Q : RZ → Prop} (h1 : Rz_present s = 0 ∨ Rz_present s = 1) (h2 : Rz_hasLeft s = 0 ∨ Rz_hasLeft s = 1) (h3 : Rz_held s = 0 ∨ Rz_held s = 1) (k : ∀ z, REq z s → Q z) : Z_R_takeOver r s Q := by
  unfold Z_R_takeOver
  refine q_copy (by decide) ?_
  rintro _ rfl
  refine ⟨h1, ?_⟩
  rintro _ rfl
  refine ⟨h2, ?_⟩
  rintro _ rfl
  refine ⟨h3, ?_⟩
  rintro _ rfl _ rfl _ rfl _ rfl _ rfl _ rfl
  exact k _ ⟨fun j hj => zcpz_lt hj, rfl⟩
theorem q_S_takeOver {Q : SZ → Prop} (h : SOK y T) (k : ∀ z, SEq z y → Q z) : Z_S_takeOver x y Q := by
  unfold Z_S_takeOver
  refine q_L_takeOver (fun z hz => ?_)
  rintro _ rfl
  have key : ∀ (n i : Nat) (rs : Nat → RZ), i + n = 8 → (∀ m : Nat, m < i → REq (rs m) (Sz_readers y m)) → ZL_S_takeOver_18 (n + 1) y i (Sz_set_readers (Sz_set_log x z) rs) Q := by
    intro n
    induction n with
    | zero =>
      intro i rs hi hr
      rw [ZL_S_takeOver_18]
      refine ⟨fun _ => q_copy (by decide) ?_, fun c => absurd c (by omega)⟩
      rintro _ rfl _ rfl _ rfl _ rfl _ rfl
      exact k _ ⟨hz, fun m hm => hr m (by omega), fun m hm => zcpz_lt hm, rfl⟩
    | succ n ih =>
      intro i rs hi hr
      rw [ZL_S_takeOver_18]
      have g := h.2.2.2 ((i : Int)).toNat (by omega)
      refine ⟨fun c => absurd c (by omega), fun _ => ⟨by omega, by omega, q_R_takeOver g.1 g.2.1 g.2.2.1 (fun w hw => ?_)⟩⟩
      rintro _ rfl
      refine ⟨by omega, ih (i + 1) _ (by omega) (fun m hm => ?_)⟩
      by_cases q : m = ((i : Int)).toNat
      · show REq (if m = ((i : Int)).toNat then w else rs m) (Sz_readers y m)
        rw [if_pos q, q]
        exact hw
      · show REq (if m = ((i : Int)).toNat then w else rs m) (Sz_readers y m)
        rw [if_neg q]
        exact hr m (by omega)
  exact ⟨_, key 8 0 (Sz_readers x) rfl (fun m hm => absurd hm (by omega))⟩
/-- a state as a renewed one -/
def FreshS (x : SZ) : Prop := (Lz_first (Sz_log x) = 0 ∧ Lz_end (Sz_log x) = 0 ∧ Lz_length (Sz_log x) = 0 ∧ Lz_begun (Sz_log x) = 0 ∧ Lz_dropped (Sz_log x) = 0 ∧ Lz_lengthsBelow (Sz_log x) 0 = 0 ∧ ∀ k : Nat, k < 8 → Lz_dropValues (Sz_log x) k = -1) ∧ (∀ n : Nat, n < 8 → Rz_present (Sz_readers x n) = 0 ∧ Rz_hasLeft (Sz_readers x n) = 0 ∧ Rz_held (Sz_readers x n) = 0) ∧ (∀ k : Nat, k < 6 → Sz_settings x k = zSvz 0 k) ∧ x.2.2.2 = (0, 0, 0, 0)
def FreshW (W : Nat → Int) : Prop := (∀ k : Nat, k < 8 → W (402 + k) = -1) ∧ W 610 = 4 ∧ W 611 = 100 ∧ W 613 = 400 ∧ ∀ m : Nat, m < 621 → ¬ (402 ≤ m ∧ m < 410) → m ≠ 610 → m ≠ 611 → m ≠ 613 → W m = 0
theorem FreshS.ok (h : FreshS x) (hT : 0 ≤ T ∧ T ≤ 5000000) : SOK x T := by
  obtain ⟨⟨a1, a2, a3, a4, a5, a6, a7⟩, b, c, d⟩ := h
  have t : Sz_time x = 0 := congrArg (fun q => q.1) d
  have t2 : Sz_lostByLength x = 0 := congrArg (fun q => q.2.1) d
  have t3 : Sz_lostBySleep x = 0 := congrArg (fun q => q.2.2.1) d
  have t4 : Sz_missed x = 0 := congrArg (fun q => q.2.2.2) d
  refine ⟨⟨by omega, ⟨a6, fun i hi => by omega, ?_⟩, fun _ => a2, fun q => by omega, fun i hi => by omega, fun k hk => by rw [a7 k hk]; decide⟩, by omega, ?_, fun n hn => ?_⟩
  · rw [a1, a2, a3]
    omega
  · unfold SetOK
    rw [c 0 (by decide), c 1 (by decide), c 2 (by decide), c 3 (by decide), c 4 (by decide), c 5 (by decide)]
    decide
  · have g := b n hn
    exact ⟨Or.inl g.1, Or.inl g.2.1, Or.inl g.2.2, fun q => by omega, fun q => by omega, fun q => by omega⟩
theorem q_S_renew {Q : SZ → Prop} (h : Lz_lengthsBelow (Sz_log x) 0 = 0) (k : ∀ z, FreshS z → Q z) : Z_S_renew x Q := by
  unfold Z_S_renew
  refine q_L_renew (fun d hd => ?_)
  rintro _ rfl
  have key : ∀ (n i : Nat) (rs : Nat → RZ), i + n = 8 → (∀ m : Nat, m < i → Rz_present (rs m) = 0 ∧ Rz_hasLeft (rs m) = 0 ∧ Rz_held (rs m) = 0) → ZL_S_renew_9 (n + 1) i (Sz_set_readers (Sz_set_log x (Lz_keys (Sz_log x), Lz_values (Sz_log x), Lz_times (Sz_log x), Lz_lengthsBelow (Sz_log x), Lz_starts (Sz_log x), d, 0, 0, 0, 0, 0)) rs) Q := by
    intro n
    induction n with
    | zero =>
      intro i rs hi hr
      rw [ZL_S_renew_9]
      refine ⟨fun _ => q_copy (by decide) ?_, fun c => absurd c (by omega)⟩
      rintro _ rfl _ rfl _ rfl _ rfl _ rfl
      exact k _ ⟨⟨rfl, rfl, rfl, rfl, rfl, h, hd⟩, fun m hm => hr m (by omega), fun m hm => zcpz_lt hm, rfl⟩
    | succ n ih =>
      intro i rs hi hr
      rw [ZL_S_renew_9]
      refine ⟨fun c => absurd c (by omega), fun _ => ⟨by omega, ?_⟩⟩
      unfold Z_R_renew
      rintro _ rfl _ rfl _ rfl _ rfl
      refine ⟨by omega, ih (i + 1) _ (by omega) (fun m hm => ?_)⟩
      by_cases q : m = ((i : Int)).toNat
      · show Rz_present (if m = ((i : Int)).toNat then _ else rs m) = 0 ∧ Rz_hasLeft (if m = ((i : Int)).toNat then _ else rs m) = 0 ∧ Rz_held (if m = ((i : Int)).toNat then _ else rs m) = 0
        rw [if_pos q]
        exact ⟨rfl, rfl, rfl⟩
      · show Rz_present (if m = ((i : Int)).toNat then _ else rs m) = 0 ∧ Rz_hasLeft (if m = ((i : Int)).toNat then _ else rs m) = 0 ∧ Rz_held (if m = ((i : Int)).toNat then _ else rs m) = 0
        rw [if_neg q]
        exact hr m (by omega)
  exact ⟨_, key 8 0 (Sz_readers x) rfl (fun m hm => absurd hm (by omega))⟩
theorem SOK.st {what v : Int} (h : SOK x T) (h0 : 0 ≤ what) (h1 : what ≤ 5) (hv : zSvz 1 what.toNat ≤ v ∧ v ≤ zSvz 2 what.toNat) : SOK (stS x what v) T := by
  refine ⟨h.1, h.2.1, ?_, h.2.2.2⟩
  have g := h.2.2.1
  unfold SetOK at g ⊢
  have e : what = 0 ∨ what = 1 ∨ what = 2 ∨ what = 3 ∨ what = 4 ∨ what = 5 := by omega
  rcases e with e | e | e | e | e | e <;> subst e
  · have hv : (1 : Int) ≤ v ∧ v ≤ 8 := hv
    exact ⟨hv, g.2⟩
  · have hv : (40 : Int) ≤ v ∧ v ≤ 200 := hv
    exact ⟨g.1, hv, g.2.2⟩
  · have hv : (0 : Int) ≤ v ∧ v ≤ 99 := hv
    exact ⟨g.1, g.2.1, hv, g.2.2.2⟩
  · have hv : (0 : Int) ≤ v ∧ v ≤ 4000 := hv
    exact ⟨g.1, g.2.1, g.2.2.1, hv, g.2.2.2.2⟩
  · have hv : (0 : Int) ≤ v ∧ v ≤ 4000 := hv
    exact ⟨g.1, g.2.1, g.2.2.1, g.2.2.2.1, hv, g.2.2.2.2.2⟩
  · have hv : (0 : Int) ≤ v ∧ v ≤ 99 := hv
    exact ⟨g.1, g.2.1, g.2.2.1, g.2.2.2.1, g.2.2.2.2.1, hv⟩
end PT
/-! ### an action, and what it makes -/
abbrev rowP (a b d : Int) : Prop := (0 ≤ a ∧ a ≤ 7) ∧ (0 ≤ b ∧ b ≤ 99) ∧ (1 ≤ d ∧ d ≤ 40)
abbrev canJP (σ : SZ) (a how held : Int) : Prop := Rz_present (Sz_readers σ a.toNat) = 0 ∧ (how < 2 ∨ (Rz_hasLeft (Sz_readers σ a.toNat) = 1 ∧ (held = 0 ∨ ¬ Rz_place (Sz_readers σ a.toNat) < Lz_first (Sz_log σ))))
abbrev setP (a b : Int) : Prop := (0 ≤ a ∧ a ≤ 5) ∧ zSvz 1 a.toNat ≤ b ∧ b ≤ zSvz 2 a.toNat
def fltA (σ : SZ) : Nat → Int → Int → Int → Int
  | 0, a, b, d => if rowP a b d then (if 200 ≤ Lz_end (Sz_log σ) then 3 else 0) else 2
  | 1, a, b, d => if (0 ≤ a ∧ a < 8) ∧ (0 ≤ b ∧ b ≤ 2) then (if canJP σ a b d then 0 else 3) else 2
  | 2, a, b, _ => if isR σ a then (if 1 ≤ b ∧ b ≤ 50 then 0 else 2) else 1
  | 3, a, _, _ => if isR σ a then 0 else 1
  | 4, a, b, _ => if isR σ a then (if b = 1 ∧ Rz_place (Sz_readers σ a.toNat) < Lz_first (Sz_log σ) then 3 else 0) else 1
  | 5, a, b, _ => if setP a b then 0 else 2
  | 6, a, _, _ => if 1 ≤ a ∧ a ≤ 99 then 0 else 2
  | _, _, _, _ => 2
def resA (σ : SZ) : Nat → Int → Int → Int → Int → SZ → Prop
  | 0, a, b, d, v, σ' => v = Lz_end (Sz_log σ) ∧ σ' = wrS σ a b d
  | 1, a, b, d, v, σ' => ∃ vs, JoinV σ a.toNat b vs v ∧ σ' = jnS σ a.toNat vs v d
  | 2, a, b, _, v, σ' => (Lz_first (Sz_log σ) ≤ Rz_place (Sz_readers σ a.toNat) ∧ v = zminZ b (Lz_end (Sz_log σ) - Rz_place (Sz_readers σ a.toNat)) ∧ σ' = rdS σ a.toNat (zminZ b (Lz_end (Sz_log σ) - Rz_place (Sz_readers σ a.toNat)))) ∨ (Rz_place (Sz_readers σ a.toNat) < Lz_first (Sz_log σ) ∧ v = -(Lz_first (Sz_log σ) - Rz_place (Sz_readers σ a.toNat)) ∧ ∃ vs, (∀ k : Int, 0 ≤ k → k < 8 → vs k.toNat = Lz_dropValues (Sz_log σ) k.toNat) ∧ σ' = gpS σ a.toNat vs)
  | 3, a, _, _, v, σ' => v = readersN (lvS σ a.toNat) ∧ σ' = lvS σ a.toNat
  | 4, a, b, _, v, σ' => v = Rz_held (Sz_readers σ a.toNat) ∧ σ' = hdS σ a.toNat b
  | 5, a, b, _, v, σ' => v = Sz_settings σ a.toNat ∧ σ' = stS σ a b
  | 6, a, _, _, v, σ' => v = Lz_dropped (Sz_log (ticksS a.toNat σ)) - Lz_dropped (Sz_log σ) ∧ σ' = ticksS a.toNat σ
  | _, _, _, _, _, _ => False
/-- what is asked of the numbers that say yes or no -/
def valA : Nat → Int → Int → Prop
  | 1, _, d => d = 0 ∨ d = 1
  | 4, b, _ => b = 0 ∨ b = 1
  | _, _, _ => True
section PX
variable {σ : SZ} {T : Int}
theorem q_fault {c : Nat} {a b d : Int} {Q : Int → Prop} (hc : c < 7) (h : SOK σ T) (hv : valA c b d) (k : Q (fltA σ c a b d)) : Z_S_faultOf c a b d σ Q := by
  unfold Z_S_faultOf
  match c, hc with
  | 0, _ =>
    have k : Q (if rowP a b d then (if 200 ≤ Lz_end (Sz_log σ) then 3 else 0) else 2) := k
    refine ⟨fun _ => ?_, fun q => absurd rfl q⟩
    unfold Z_S_faultOfWriting
    refine q_isIn (fun a0 a1 => ⟨fun q => absurd q (by decide), fun _ => q_isIn (fun b0 b1 => ⟨fun q => absurd q (by decide), fun _ => q_isIn (fun d0 d1 => ⟨fun _ => ?_, fun q => absurd q (by decide)⟩) (fun d0 => ⟨fun q => absurd rfl q, fun _ => ?_⟩)⟩) (fun b0 => ⟨fun _ => ?_, fun q => absurd rfl q⟩)⟩) (fun a0 => ⟨fun _ => ?_, fun q => absurd rfl q⟩)
    · rw [if_pos ⟨⟨a0, a1⟩, ⟨b0, b1⟩, d0, d1⟩] at k
      exact ⟨fun q => by rw [if_pos q] at k; exact k, fun q => by rw [if_neg q] at k; exact k⟩
    · rw [if_neg (fun q => d0 q.2.2)] at k
      exact k
    · rw [if_neg (fun q => b0 q.2.1)] at k
      exact k
    · rw [if_neg (fun q => a0 q.1)] at k
      exact k
  | 1, _ =>
    have hv : d = 0 ∨ d = 1 := hv
    have two : ∀ d' : Int, d' = d → Z_S_faultOfJoining a b d' σ (fun r => Q r) := by
      intro d' hd'
      subst hd'
      have k : Q (if (0 ≤ a ∧ a < 8) ∧ (0 ≤ b ∧ b ≤ 2) then (if canJP σ a b d' then 0 else 3) else 2) := k
      unfold Z_S_faultOfJoining
      refine q_named (fun i hi hi8 => ⟨fun q => (nomatch q), fun j q => ?_⟩) (fun q => ⟨fun _ => ?_, fun j q => (nomatch q)⟩)
      · cases q
        have e0 : i = a.toNat := by omega
        subst e0
        have g := h.2.2.2 a.toNat hi8
        refine q_isIn (fun b0 b1 => ⟨fun _ => ?_, fun q => absurd q (by decide)⟩) (fun b0 => ⟨fun q => absurd rfl q, fun _ => ?_⟩)
        · rw [if_pos ⟨⟨by omega, by omega⟩, b0, b1⟩] at k
          refine ⟨fun q => ⟨fun q2 => ?_, fun q2 => ⟨fun _ => ⟨fun _ => ?_, fun q3 => absurd rfl q3⟩, fun q3 => absurd rfl q3⟩⟩, fun q => ⟨fun q2 => ?_, fun q2 => ⟨fun q3 => absurd q3 (by decide), fun _ => ⟨fun q4 => ?_, fun q4 => ⟨fun q5 => absurd q5 (by decide), fun _ => ⟨fun q6 => ?_, fun q6 => ⟨fun q7 => ?_, fun q7 => ?_⟩⟩⟩⟩⟩⟩⟩
          · rw [if_neg (fun z => q2 z.1)] at k
            exact k
          · rw [if_pos ⟨q2, Or.inl (by omega)⟩] at k
            exact k
          · rw [if_neg (fun z => q2 z.1)] at k
            exact k
          · rw [if_neg (fun z => z.2.elim (fun y => by omega) (fun y => by omega))] at k
            exact k
          · rw [if_pos ⟨q2, Or.inr ⟨by rcases g.2.1 with z | z <;> omega, Or.inl q6⟩⟩] at k
            exact k
          · rw [if_pos ⟨q2, Or.inr ⟨by rcases g.2.1 with z | z <;> omega, Or.inr (by omega)⟩⟩] at k
            exact k
          · rw [if_neg (fun z => z.2.elim (fun y => by omega) (fun y => y.2.elim q6 (fun x => x (by omega))))] at k
            exact k
        · rw [if_neg (fun z => b0 z.2)] at k
          exact k
      · rw [if_neg (fun z => q z.1)] at k
        exact k
    exact ⟨fun q => absurd q (by decide), fun _ => ⟨fun _ => ⟨fun q => two 0 (by omega), fun q => two 1 q.symm⟩, fun q => absurd rfl q⟩⟩
  | 2, _ =>
    have k : Q (if isR σ a then (if 1 ≤ b ∧ b ≤ 50 then 0 else 2) else 1) := k
    refine ⟨fun q => absurd q (by decide), fun _ => ⟨fun q => absurd q (by decide), fun _ => ⟨fun _ => ?_, fun q => absurd rfl q⟩⟩⟩
    refine q_reader h (fun i hi hi8 hp => ⟨fun q => (nomatch q), fun j q => ?_⟩) (fun q => ⟨fun _ => ?_, fun j q => (nomatch q)⟩)
    · rw [if_pos ⟨⟨by omega, by omega⟩, by rw [show a.toNat = i by omega]; exact hp⟩] at k
      refine q_isIn (fun b0 b1 => ⟨fun q => absurd q (by decide), fun _ => ?_⟩) (fun b0 => ⟨fun _ => ?_, fun q => absurd rfl q⟩)
      · rw [if_pos ⟨b0, b1⟩] at k
        exact k
      · rw [if_neg b0] at k
        exact k
    · rw [if_neg q] at k
      exact k
  | 3, _ =>
    have k : Q (if isR σ a then 0 else 1) := k
    refine ⟨fun q => absurd q (by decide), fun _ => ⟨fun q => absurd q (by decide), fun _ => ⟨fun q => absurd q (by decide), fun _ => ⟨fun _ => ?_, fun q => absurd rfl q⟩⟩⟩⟩
    refine q_reader h (fun i hi hi8 hp => ⟨fun q => (nomatch q), fun j q => ?_⟩) (fun q => ⟨fun _ => ?_, fun j q => (nomatch q)⟩)
    · rw [if_pos ⟨⟨by omega, by omega⟩, by rw [show a.toNat = i by omega]; exact hp⟩] at k
      exact k
    · rw [if_neg q] at k
      exact k
  | 4, _ =>
    have k : Q (if isR σ a then (if b = 1 ∧ Rz_place (Sz_readers σ a.toNat) < Lz_first (Sz_log σ) then 3 else 0) else 1) := k
    refine ⟨fun q => absurd q (by decide), fun _ => ⟨fun q => absurd q (by decide), fun _ => ⟨fun q => absurd q (by decide), fun _ => ⟨fun q => absurd q (by decide), fun _ => ⟨fun _ => ?_, fun q => absurd rfl q⟩⟩⟩⟩⟩
    refine q_reader h (fun i hi hi8 hp => ⟨fun q => (nomatch q), fun j q => ?_⟩) (fun q => ⟨fun _ => ?_, fun j q => (nomatch q)⟩)
    · rw [if_pos ⟨⟨by omega, by omega⟩, by rw [show a.toNat = i by omega]; exact hp⟩] at k
      refine ⟨fun q2 => ?_, fun q2 => q_hasGap h (fun z => ⟨fun y => absurd y (by decide), fun _ => ?_⟩) (fun z => ⟨fun _ => ?_, fun y => absurd rfl y⟩)⟩
      · rw [if_neg (fun z => q2 z.1)] at k
        exact k
      · rw [if_pos ⟨q2, z.2⟩] at k
        exact k
      · rw [if_neg (fun y => z ⟨⟨⟨by omega, by omega⟩, by rw [show a.toNat = i by omega]; exact hp⟩, y.2⟩)] at k
        exact k
    · rw [if_neg q] at k
      exact k
  | 5, _ =>
    have k : Q (if setP a b then 0 else 2) := k
    refine ⟨fun q => absurd q (by decide), fun _ => ⟨fun q => absurd q (by decide), fun _ => ⟨fun q => absurd q (by decide), fun _ => ⟨fun q => absurd q (by decide), fun _ => ⟨fun q => absurd q (by decide), fun _ => ⟨fun _ => ?_, fun q => absurd rfl q⟩⟩⟩⟩⟩⟩
    refine q_isIn (fun a0 a1 => ⟨fun q => absurd q (by decide), fun _ => q_at (by decide) a0 (by omega) (q_at (by decide) a0 (by omega) (q_isIn (fun b0 b1 => ⟨fun q => absurd q (by decide), fun _ => ?_⟩) (fun b0 => ⟨fun _ => ?_, fun q => absurd rfl q⟩)))⟩) (fun a0 => ⟨fun _ => ?_, fun q => absurd rfl q⟩)
    · rw [if_pos ⟨⟨a0, a1⟩, b0, b1⟩] at k
      exact k
    · rw [if_neg (fun z => b0 z.2)] at k
      exact k
    · rw [if_neg (fun z => a0 z.1)] at k
      exact k
  | 6, _ =>
    have k : Q (if 1 ≤ a ∧ a ≤ 99 then 0 else 2) := k
    refine ⟨fun q => absurd q (by decide), fun _ => ⟨fun q => absurd q (by decide), fun _ => ⟨fun q => absurd q (by decide), fun _ => ⟨fun q => absurd q (by decide), fun _ => ⟨fun q => absurd q (by decide), fun _ => ⟨fun q => absurd q (by decide), fun _ => ⟨fun _ => ?_, fun q => absurd rfl q⟩⟩⟩⟩⟩⟩⟩
    refine q_isIn (fun a0 a1 => ⟨fun q => absurd q (by decide), fun _ => ?_⟩) (fun a0 => ⟨fun _ => ?_, fun q => absurd rfl q⟩)
    · rw [if_pos ⟨a0, a1⟩] at k
      exact k
    · rw [if_neg a0] at k
      exact k
theorem fltA_cases {c : Nat} {a b d : Int} : fltA σ c a b d = 0 ∨ fltA σ c a b d = 1 ∨ fltA σ c a b d = 2 ∨ fltA σ c a b d = 3 := by
  unfold fltA
  split
  · split
    · split <;> simp
    · simp
  · split
    · split <;> simp
    · simp
  · split
    · split <;> simp
    · simp
  · split <;> simp
  · split
    · split <;> simp
    · simp
  · split <;> simp
  · split <;> simp
  · simp
theorem ok0 {a b d : Int} (o : fltA σ 0 a b d = 0) : rowP a b d ∧ Lz_end (Sz_log σ) < 200 := by
  have o : (if rowP a b d then (if 200 ≤ Lz_end (Sz_log σ) then (3 : Int) else 0) else 2) = 0 := o
  by_cases q : rowP a b d
  · rw [if_pos q] at o
    refine ⟨q, ?_⟩
    by_cases q2 : 200 ≤ Lz_end (Sz_log σ)
    · rw [if_pos q2] at o
      exact absurd o (by decide)
    · omega
  · rw [if_neg q] at o
    exact absurd o (by decide)
theorem ok1 {a b d : Int} (o : fltA σ 1 a b d = 0) : ((0 ≤ a ∧ a < 8) ∧ (0 ≤ b ∧ b ≤ 2)) ∧ canJP σ a b d := by
  have o : (if (0 ≤ a ∧ a < 8) ∧ (0 ≤ b ∧ b ≤ 2) then (if canJP σ a b d then (0 : Int) else 3) else 2) = 0 := o
  by_cases q : (0 ≤ a ∧ a < 8) ∧ (0 ≤ b ∧ b ≤ 2)
  · rw [if_pos q] at o
    refine ⟨q, ?_⟩
    by_cases q2 : canJP σ a b d
    · exact q2
    · rw [if_neg q2] at o
      exact absurd o (by decide)
  · rw [if_neg q] at o
    exact absurd o (by decide)
theorem ok2 {a b d : Int} (o : fltA σ 2 a b d = 0) : isR σ a ∧ 1 ≤ b ∧ b ≤ 50 := by
  have o : (if isR σ a then (if 1 ≤ b ∧ b ≤ 50 then (0 : Int) else 2) else 1) = 0 := o
  by_cases q : isR σ a
  · rw [if_pos q] at o
    refine ⟨q, ?_⟩
    by_cases q2 : 1 ≤ b ∧ b ≤ 50
    · exact q2
    · rw [if_neg q2] at o
      exact absurd o (by decide)
  · rw [if_neg q] at o
    exact absurd o (by decide)
theorem ok3 {a b d : Int} (o : fltA σ 3 a b d = 0) : isR σ a := by
  have o : (if isR σ a then (0 : Int) else 1) = 0 := o
  by_cases q : isR σ a
  · exact q
  · rw [if_neg q] at o
    exact absurd o (by decide)
theorem ok4 {a b d : Int} (o : fltA σ 4 a b d = 0) : isR σ a ∧ ¬ (b = 1 ∧ Rz_place (Sz_readers σ a.toNat) < Lz_first (Sz_log σ)) := by
  have o : (if isR σ a then (if b = 1 ∧ Rz_place (Sz_readers σ a.toNat) < Lz_first (Sz_log σ) then (3 : Int) else 0) else 1) = 0 := o
  by_cases q : isR σ a
  · rw [if_pos q] at o
    refine ⟨q, fun q2 => ?_⟩
    rw [if_pos q2] at o
    exact absurd o (by decide)
  · rw [if_neg q] at o
    exact absurd o (by decide)
theorem ok5 {a b d : Int} (o : fltA σ 5 a b d = 0) : setP a b := by
  have o : (if setP a b then (0 : Int) else 2) = 0 := o
  by_cases q : setP a b
  · exact q
  · rw [if_neg q] at o
    exact absurd o (by decide)
theorem ok6 {a b d : Int} (o : fltA σ 6 a b d = 0) : 1 ≤ a ∧ a ≤ 99 := by
  have o : (if 1 ≤ a ∧ a ≤ 99 then (0 : Int) else 2) = 0 := o
  by_cases q : 1 ≤ a ∧ a ≤ 99
  · exact q
  · rw [if_neg q] at o
    exact absurd o (by decide)
theorem JoinV.pl {a b d pl : Int} {vs : Nat → Int} (h : SOK σ T) (o : fltA σ 1 a b d = 0) (hd : d = 0 ∨ d = 1) (j : JoinV σ a.toNat b vs pl) : (0 ≤ pl ∧ pl ≤ Lz_end (Sz_log σ)) ∧ (d = 1 → Lz_first (Sz_log σ) ≤ pl) := by
  obtain ⟨⟨a1, a2⟩, p, c⟩ := ok1 o
  have h1 := h.1.1
  have g := h.2.2.2 a.toNat (by omega)
  obtain ⟨j1, j2, j3⟩ := j
  by_cases q : b = 0
  · have e := (j1 q).1
    omega
  · by_cases q2 : b = 1
    · have e := (j2 q2).1
      omega
    · have e := (j3 q q2).1
      rcases c with c | c
      · omega
      · have g5 := g.2.2.2.2.1 (Or.inr c.1)
        rw [e]
        refine ⟨g5, fun q3 => ?_⟩
        rcases c.2 with z | z <;> omega
theorem SOK.jv {a b d pl : Int} {vs : Nat → Int} (h : SOK σ T) (o : fltA σ 1 a b d = 0) (hd : d = 0 ∨ d = 1) (j : JoinV σ a.toNat b vs pl) : SOK (jnS σ a.toNat vs pl d) T := by
  have e := j.pl h o hd
  have a1 := (ok1 o).1
  exact h.jn hd e.1 e.2 (by omega)
theorem JoinV.same {a b d pl pl2 : Int} {vs vs2 : Nat → Int} (j : JoinV σ a.toNat b vs pl) (j2 : JoinV σ a.toNat b vs2 pl2) : pl = pl2 ∧ SEq (jnS σ a.toNat vs pl d) (jnS σ a.toNat vs2 pl2 d) := by
  have e : pl = pl2 ∧ ∀ k : Nat, k < 8 → vs k = vs2 k := by
    by_cases q : b = 0
    · exact ⟨(j.1 q).1.trans (j2.1 q).1.symm, fun k hk => ((j.1 q).2 k (by omega) (by omega)).trans ((j2.1 q).2 k (by omega) (by omega)).symm⟩
    · by_cases q2 : b = 1
      · exact ⟨(j.2.1 q2).1.trans (j2.2.1 q2).1.symm, fun k hk => ((j.2.1 q2).2 k (by omega) (by omega)).trans ((j2.2.1 q2).2 k (by omega) (by omega)).symm⟩
      · exact ⟨(j.2.2 q q2).1.trans (j2.2.2 q q2).1.symm, fun k hk => by rw [(j.2.2 q q2).2, (j2.2.2 q q2).2]⟩
  obtain ⟨e1, e2⟩ := e
  subst e1
  refine ⟨rfl, LEq.refl, fun n hn => ?_, fun _ _ => rfl, rfl⟩
  by_cases q : n = a.toNat
  · rw [q, rd_eq, rd_eq]
    exact ⟨e2, rfl⟩
  · rw [rd_ne q, rd_ne q]
    exact ⟨fun _ _ => rfl, rfl⟩
theorem gp_same {a : Nat} {vs vs2 : Nat → Int} (e : ∀ k : Int, 0 ≤ k → k < 8 → vs k.toNat = Lz_dropValues (Sz_log σ) k.toNat) (e2 : ∀ k : Int, 0 ≤ k → k < 8 → vs2 k.toNat = Lz_dropValues (Sz_log σ) k.toNat) : SEq (gpS σ a vs) (gpS σ a vs2) := by
  refine ⟨LEq.refl, fun n hn => ?_, fun _ _ => rfl, rfl⟩
  have h1 : ∀ (r1 : RZ) (m : Int), Sz_readers (Sz_set_missed (Sz_seti_readers σ a r1) m) = Sz_readers (Sz_seti_readers σ a r1) := fun _ _ => rfl
  rw [h1, h1]
  by_cases q : n = a
  · rw [q, rd_eq, rd_eq]
    exact ⟨fun k hk => (e k (by omega) (by omega)).trans (e2 k (by omega) (by omega)).symm, rfl⟩
  · rw [rd_ne q, rd_ne q]
    exact ⟨fun _ _ => rfl, rfl⟩
theorem SOK.mono {T' : Int} (h : SOK σ T) (e : T ≤ T') (hT : T' ≤ 5000000) : SOK σ T' := by
  have h2 := h.2.1
  exact ⟨h.1, by omega, h.2.2.1, fun n hn => (h.2.2.2 n hn).to rfl (Int.le_refl _) (Int.le_refl _) e⟩
end PX
/-! ### an action goes -/
section PY
variable {σ : SZ} {T : Int}
theorem chk_missed {σ : SZ} {e : Nat} : Sz_missed (chk σ e) = Sz_missed σ := (chk_keep (σ := σ) (e := e)).2.2.2.1
theorem tick_missed {σ : SZ} : Sz_missed (tickS σ) = Sz_missed σ := by
  have e1 := (dropAll_keep 200 (σ := chkAll (Sz_set_time σ (Sz_time σ + 1)) 8)).2.2.2.1
  have e2 := (chkAll_keep (σ := Sz_set_time σ (Sz_time σ + 1)) 8).2.2.2.1
  exact e1.trans e2
theorem ticks_missed : ∀ (n : Nat) {σ : SZ}, Sz_missed (ticksS n σ) = Sz_missed σ
  | 0, _ => rfl
  | n + 1, σ => (ticks_missed n (σ := tickS σ)).trans tick_missed
theorem readersN_in {σ : SZ} : 0 ≤ readersN σ ∧ readersN σ ≤ 8 := sumN_in 8 (fun j _ => by show 0 ≤ (if _ then _ else _ : Int) ∧ (if _ then _ else _ : Int) ≤ 1; split <;> omega)
theorem SOK.res {c : Nat} {a b d v : Int} {σ' : SZ} (h : SOK σ T) (hT : T + 99 ≤ 5000000) (hv : valA c b d) (o : fltA σ c a b d = 0) (r : resA σ c a b d v σ') : SOK σ' (T + 99) ∧ Sz_missed σ ≤ Sz_missed σ' ∧ (-200 ≤ v ∧ v ≤ 5000000) ∧ (c ≠ 2 → 0 ≤ v) := by
  have h1 := h.1.1
  match c with
  | 0 =>
    obtain ⟨e1, e2⟩ := r
    subst e1; subst e2
    obtain ⟨⟨o1, o2, o3⟩, o4⟩ := ok0 o
    exact ⟨(h.wr o4 (by omega) (by omega) o3).mono (by omega) hT, Int.le_refl _, by omega, fun _ => by omega⟩
  | 1 =>
    obtain ⟨vs, j, e2⟩ := r
    subst e2
    have hv : d = 0 ∨ d = 1 := hv
    have g := (j.pl h o hv).1
    exact ⟨(h.jv o hv j).mono (by omega) hT, Int.le_refl _, by omega, fun _ => g.1⟩
  | 2 =>
    obtain ⟨⟨o1, o2⟩, o3⟩ := ok2 o
    have g := (h.2.2.2 a.toNat (by omega))
    have g5 := g.2.2.2.2.1 (Or.inl o2)
    rcases r with ⟨r1, e1, e2⟩ | ⟨r1, e1, vs, r3, e2⟩
    · subst e1; subst e2
      have hm := zminZ_in (n := b) (m := Lz_end (Sz_log σ) - Rz_place (Sz_readers σ a.toNat)) (by omega) (by omega)
      have hm1 := hm.1
      have hm2 := Int.le_trans hm.2.1 o3.2
      exact ⟨(h.rd (by omega) (by omega) o2 ⟨hm1, hm2, hm.2.2⟩).mono (by omega) hT, Int.le_refl _, ⟨Int.le_trans (by decide) hm1, Int.le_trans hm2 (by decide)⟩, fun q => absurd rfl q⟩
    · subst e1; subst e2
      refine ⟨(h.gp (by omega) (by omega) o2 r1).mono (by omega) hT, ?_, by omega, fun q => absurd rfl q⟩
      show Sz_missed σ ≤ Sz_missed σ + (Lz_first (Sz_log σ) - Rz_place (Sz_readers σ a.toNat))
      omega
  | 3 =>
    obtain ⟨e1, e2⟩ := r
    subst e1; subst e2
    obtain ⟨o1, o2⟩ := ok3 o
    have g := readersN_in (σ := lvS σ a.toNat)
    exact ⟨(h.lv (by omega) o2).mono (by omega) hT, Int.le_refl _, by omega, fun _ => g.1⟩
  | 4 =>
    obtain ⟨e1, e2⟩ := r
    subst e1; subst e2
    obtain ⟨⟨o1, o2⟩, o3⟩ := ok4 o
    have g := (h.2.2.2 a.toNat (by omega)).2.2.1
    have hv : b = 0 ∨ b = 1 := hv
    exact ⟨(h.hd (by omega) o2 hv (fun q => by omega)).mono (by omega) hT, Int.le_refl _, by omega, fun _ => by omega⟩
  | 5 =>
    obtain ⟨e1, e2⟩ := r
    subst e1; subst e2
    have o := ok5 o
    have g := h.2.2.1
    have gv : 0 ≤ Sz_settings σ a.toNat ∧ Sz_settings σ a.toNat ≤ 4000 := by
      have e : a.toNat = 0 ∨ a.toNat = 1 ∨ a.toNat = 2 ∨ a.toNat = 3 ∨ a.toNat = 4 ∨ a.toNat = 5 := by omega
      obtain ⟨g0, g1, g2, g3, g4, g5⟩ := g
      rcases e with e | e | e | e | e | e <;> rw [e] <;> omega
    exact ⟨(h.st o.1.1 o.1.2 o.2).mono (by omega) hT, Int.le_refl _, by omega, fun _ => gv.1⟩
  | 6 =>
    obtain ⟨e1, e2⟩ := r
    subst e1; subst e2
    have o := ok6 o
    have hs := h.ticks a.toNat (by omega)
    have hd := ticks_dropped a.toNat (σ := σ)
    have hd2 := hs.1.1
    have e : Sz_missed (ticksS a.toNat σ) = Sz_missed σ := ticks_missed _
    exact ⟨hs.mono (by omega) hT, Int.le_of_eq e.symm, by omega, fun _ => by omega⟩
  | n + 7 => exact absurd r (by intro q; exact q)
theorem q_go {c : Nat} {a b d : Int} {Q : Int → SZ → Prop} (hc : c < 7) (h : SOK σ T) (hT : T + 99 ≤ 5000000) (hv : valA c b d) (o : fltA σ c a b d = 0) (k : ∀ v σ', resA σ c a b d v σ' → Q v σ') : Z_S_perform c a b d σ Q := by
  match c, hc with
  | 0, _ =>
    obtain ⟨⟨o1, o2, o3⟩, o4⟩ := ok0 o
    exact q_write h o4 o3 (k _ _ ⟨rfl, rfl⟩)
  | 1, _ =>
    have hv : d = 0 ∨ d = 1 := hv
    obtain ⟨⟨o1, o2⟩, p, o3⟩ := ok1 o
    have e : ∀ d' : Int, d' = d → Z_S_letIn (some a.toNat) b d' σ Q := by
      intro d' e
      subst e
      exact q_letIn h hv (fun vs pl j => k _ _ ⟨vs, j, rfl⟩)
    unfold Z_S_perform
    refine ⟨fun q => absurd q (by decide), fun _ => ⟨fun _ => q_named (fun i hi hi8 => ⟨fun q => (nomatch q), fun j q => ?_⟩) (fun q => absurd o1 q), fun q => absurd rfl q⟩⟩
    cases q
    have e0 : i = a.toNat := by omega
    subst e0
    exact ⟨fun q => e 0 (by omega), fun q => e 1 (by omega)⟩
  | 2, _ =>
    obtain ⟨⟨o1, o2⟩, o3⟩ := ok2 o
    unfold Z_S_perform
    refine ⟨fun q => absurd q (by decide), fun _ => ⟨fun q => absurd q (by decide), fun _ => ⟨fun _ => q_reader h (fun i hi hi8 hp => ⟨fun q => (nomatch q), fun j q => ?_⟩) (fun q => absurd ⟨o1, o2⟩ q), fun q => absurd rfl q⟩⟩⟩
    cases q
    have e0 : i = a.toNat := by omega
    subst e0
    exact q_letRead h hi8 hp o3 (fun q => k _ _ (Or.inl ⟨q, rfl, rfl⟩)) (fun q vs e => k _ _ (Or.inr ⟨q, rfl, vs, e, rfl⟩))
  | 3, _ =>
    obtain ⟨o1, o2⟩ := ok3 o
    unfold Z_S_perform
    refine ⟨fun q => absurd q (by decide), fun _ => ⟨fun q => absurd q (by decide), fun _ => ⟨fun q => absurd q (by decide), fun _ => ⟨fun _ => q_reader h (fun i hi hi8 hp => ⟨fun q => (nomatch q), fun j q => ?_⟩) (fun q => absurd ⟨o1, o2⟩ q), fun q => absurd rfl q⟩⟩⟩⟩
    cases q
    have e0 : i = a.toNat := by omega
    subst e0
    exact q_letGo h hi8 hp (k _ _ ⟨rfl, rfl⟩)
  | 4, _ =>
    have hv : b = 0 ∨ b = 1 := hv
    obtain ⟨⟨o1, o2⟩, o3⟩ := ok4 o
    unfold Z_S_perform
    refine ⟨fun q => absurd q (by decide), fun _ => ⟨fun q => absurd q (by decide), fun _ => ⟨fun q => absurd q (by decide), fun _ => ⟨fun q => absurd q (by decide), fun _ => ⟨fun _ => q_reader h (fun i hi hi8 hp => ⟨fun q => (nomatch q), fun j q => ?_⟩) (fun q => absurd ⟨o1, o2⟩ q), fun q => absurd rfl q⟩⟩⟩⟩⟩
    cases q
    have e0 : i = a.toNat := by omega
    subst e0
    have e : ∀ b' : Int, b' = b → Z_S_changeHold (some a.toNat) b' σ Q := by
      intro b' e
      subst e
      exact q_changeHold h hi8 hv (k _ _ ⟨rfl, rfl⟩)
    exact ⟨fun q => e 0 (by omega), fun q => e 1 (by omega)⟩
  | 5, _ =>
    have o := ok5 o
    unfold Z_S_perform
    exact ⟨fun q => absurd q (by decide), fun _ => ⟨fun q => absurd q (by decide), fun _ => ⟨fun q => absurd q (by decide), fun _ => ⟨fun q => absurd q (by decide), fun _ => ⟨fun q => absurd q (by decide), fun _ => ⟨fun _ => q_change o.1.1 o.1.2 (k _ _ ⟨rfl, rfl⟩), fun q => absurd rfl q⟩⟩⟩⟩⟩⟩
  | 6, _ =>
    have o := ok6 o
    unfold Z_S_perform
    refine ⟨fun q => absurd q (by decide), fun _ => ⟨fun q => absurd q (by decide), fun _ => ⟨fun q => absurd q (by decide), fun _ => ⟨fun q => absurd q (by decide), fun _ => ⟨fun q => absurd q (by decide), fun _ => ⟨fun q => absurd q (by decide), fun _ => ?_⟩⟩⟩⟩⟩⟩
    have e : ∀ a' : Int, a' = ((a.toNat : Nat) : Int) → Z_S_passTime a' σ Q := by
      intro a' e
      subst e
      exact q_passTime h (by omega) (by omega) (k _ _ ⟨rfl, rfl⟩)
    exact e a (by omega)
theorem q_attempt {c : Nat} {a b d : Int} {Q : Int → SZ → Prop} (hc : c < 7) (h : SOK σ T) (hT : T + 99 ≤ 5000000) (hv : valA c b d) (k1 : fltA σ c a b d = 0 → ∀ v σ', resA σ c a b d v σ' → Q 1 σ') (k0 : ¬ fltA σ c a b d = 0 → Q 0 σ) : Z_S_attempt c a b d σ Q :=
  q_fault hc h hv ⟨fun o => q_go hc h hT hv o (fun v σ' r => k1 o v σ' r), fun o => k0 o⟩
theorem q_getsFurther {a b : Int} {Q : Int → SZ → Prop} (h : SOK σ T) (hT : T + 99 ≤ 5000000) (k1 : fltA σ 2 a b 0 = 0 → ∀ v σ', resA σ 2 a b 0 v σ' → Q (if v = 0 then 0 else 1) σ') (k0 : ¬ fltA σ 2 a b 0 = 0 → Q 0 σ) : Z_S_getsFurther a b σ Q := by
  refine q_fault (c := 2) (by decide) h trivial ⟨fun o => k0 o, fun o => q_go (c := 2) (by decide) h hT trivial o (fun v σ' r => ⟨fun q => ?_, fun q => ?_⟩)⟩
  · have g := k1 o v σ' r
    rw [if_pos q] at g
    exact g
  · have g := k1 o v σ' r
    rw [if_neg q] at g
    exact g
/-! the model, for the same result -/
end PY
/-! ### the class and the model, call by call -/
section PZ
variable {v : TZ} {T : Int}
/-- what becomes of the exceptions of a call -/
abbrev exZ (E : String) (IOB IAE ISE : Prop) : Prop := (E = "java/lang/IndexOutOfBoundsException" → IOB) ∧ (E = "java/lang/IllegalArgumentException" → IAE) ∧ (E = "java/lang/IllegalStateException" → ISE) ∧ (¬ (E = "java/lang/IndexOutOfBoundsException" ∨ E = "java/lang/IllegalArgumentException" ∨ E = "java/lang/IllegalStateException") → False)
theorem ex_iob {A B C : Prop} (h : A) : exZ "java/lang/IndexOutOfBoundsException" A B C := ⟨fun _ => h, fun q => absurd q (by decide), fun q => absurd q (by decide), fun q => q (Or.inl rfl)⟩
theorem ex_iae {A B C : Prop} (h : B) : exZ "java/lang/IllegalArgumentException" A B C := ⟨fun q => absurd q (by decide), fun _ => h, fun q => absurd q (by decide), fun q => q (Or.inr (Or.inl rfl))⟩
theorem ex_ise {A B C : Prop} (h : C) : exZ "java/lang/IllegalStateException" A B C := ⟨fun q => absurd q (by decide), fun q => absurd q (by decide), fun _ => h, fun q => q (Or.inr (Or.inr rfl))⟩
theorem fz1 {P : Prop} [Decidable P] {x y n : Int} (o : (if P then x else y) = n) : (P ∧ x = n) ∨ (¬ P ∧ y = n) := by
  split at o
  · exact Or.inl ⟨by assumption, o⟩
  · exact Or.inr ⟨by assumption, o⟩
end PZ

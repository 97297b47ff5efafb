/-! ### what an action makes of the state of the class -/
abbrev wrS (σ : SZ) (key val len : Int) : SZ := Sz_set_log σ (addX (if opens (Sz_log σ) len (Sz_settings σ 0) (Sz_settings σ 1) then openX (Sz_log σ) else Sz_log σ) key val len (Sz_time σ))
abbrev jnS (σ : SZ) (a : Nat) (vs : Nat → Int) (pl held : Int) : SZ := Sz_seti_readers σ a (vs, 1, Rz_hasLeft (Sz_readers σ a), held, pl, 0, 0, Sz_time σ, 0)
def JoinV (σ : SZ) (a : Nat) (how : Int) (vs : Nat → Int) (pl : Int) : Prop :=
  (how = 0 → pl = Lz_first (Sz_log σ) ∧ ∀ k : Int, 0 ≤ k → k < 8 → vs k.toNat = Lz_dropValues (Sz_log σ) k.toNat) ∧
  (how = 1 → pl = Lz_end (Sz_log σ) ∧ ∀ k : Int, 0 ≤ k → k < 8 → vs k.toNat = toldX (Sz_log σ) k (Lz_end (Sz_log σ))) ∧
  (how ≠ 0 → how ≠ 1 → pl = Rz_place (Sz_readers σ a) ∧ vs = Rz_values (Sz_readers σ a))
abbrev rdS (σ : SZ) (a : Nat) (n : Int) : SZ := Sz_seti_readers σ a (dropFn (Lz_keys (Sz_log σ)) (Lz_values (Sz_log σ)) n.toNat (Rz_place (Sz_readers σ a)) (Rz_values (Sz_readers σ a)), Rz_present (Sz_readers σ a), Rz_hasLeft (Sz_readers σ a), Rz_held (Sz_readers σ a), Rz_place (Sz_readers σ a) + n, Rz_readSoFar (Sz_readers σ a) + n, Rz_missedSoFar (Sz_readers σ a), Sz_time σ, Rz_lostBy (Sz_readers σ a))
abbrev gpS (σ : SZ) (a : Nat) (vs : Nat → Int) : SZ := Sz_set_missed (Sz_seti_readers σ a (vs, Rz_present (Sz_readers σ a), Rz_hasLeft (Sz_readers σ a), Rz_held (Sz_readers σ a), Lz_first (Sz_log σ), Rz_readSoFar (Sz_readers σ a), Rz_missedSoFar (Sz_readers σ a) + (Lz_first (Sz_log σ) - Rz_place (Sz_readers σ a)), Sz_time σ, Rz_lostBy (Sz_readers σ a))) (Sz_missed σ + (Lz_first (Sz_log σ) - Rz_place (Sz_readers σ a)))
abbrev lvS (σ : SZ) (a : Nat) : SZ := Sz_seti_readers σ a (Rz_set_held (Rz_set_hasLeft (Rz_set_present (Sz_readers σ a) 0) 1) 0)
abbrev hdS (σ : SZ) (a : Nat) (b : Int) : SZ := Sz_seti_readers σ a (Rz_set_lostBy (Rz_set_held (Sz_readers σ a) b) 0)
abbrev stS (σ : SZ) (what v : Int) : SZ := Sz_set_settings σ (updz (Sz_settings σ) what.toNat v)
theorem zminZ_in {n m : Int} (h0 : 0 ≤ n) (h1 : 0 ≤ m) : 0 ≤ zminZ n m ∧ zminZ n m ≤ n ∧ zminZ n m ≤ m := by
  by_cases q : m < n
  · have e : zminZ n m = m := if_pos q
    rw [e]
    omega
  · have e : zminZ n m = n := if_neg q
    rw [e]
    omega
section PQ
variable {σ : SZ} {T : Int}
theorem seti2 {a : Nat} {r1 r2 : RZ} : Sz_seti_readers (Sz_seti_readers σ a r1) a r2 = Sz_seti_readers σ a r2 := by
  have e : (fun j => if j = a then r2 else (if j = a then r1 else Sz_readers σ j)) = fun j => if j = a then r2 else Sz_readers σ j := by
    funext j
    by_cases q : j = a
    · rw [if_pos q, if_pos q]
    · rw [if_neg q, if_neg q, if_neg q]
  exact congrArg (Sz_set_readers σ) e
theorem SOK.up (h : SOK σ T) (hT : T + 1 ≤ 5000000) : SOK σ (T + 1) := by
  have h2 := h.2.1
  exact ⟨h.1, by omega, h.2.2.1, fun n hn => (h.2.2.2 n hn).to rfl (Int.le_refl _) (Int.le_refl _) (by omega)⟩
theorem SOK.wr {key val len : Int} (h : SOK σ T) (he : Lz_end (Sz_log σ) < 200) (hk : 0 ≤ key ∧ key < 8) (hv : 0 ≤ val ∧ val < 100) (hl : 1 ≤ len ∧ len ≤ 40) : SOK (wrS σ key val len) T := by
  have h2 := h.2.1
  have hL : LOK (addX (if opens (Sz_log σ) len (Sz_settings σ 0) (Sz_settings σ 1) then openX (Sz_log σ) else Sz_log σ) key val len (Sz_time σ)) (Sz_time σ) := by
    split
    · exact h.1.openAdd he hk hv hl ⟨h2.1, Int.le_refl _⟩ (Int.le_refl _)
    · rename_i c
      have h1 := h.1.1
      exact h.1.add he hk hv hl ⟨h2.1, Int.le_refl _⟩ (Int.le_refl _) (by
        rcases Int.lt_or_le 0 (Lz_begun (Sz_log σ)) with q | q
        · exact q
        · exact absurd (Or.inl (by omega)) c)
  have e1 : Lz_first (addX (if opens (Sz_log σ) len (Sz_settings σ 0) (Sz_settings σ 1) then openX (Sz_log σ) else Sz_log σ) key val len (Sz_time σ)) = Lz_first (Sz_log σ) := by
    split <;> rfl
  have e2 : Lz_end (addX (if opens (Sz_log σ) len (Sz_settings σ 0) (Sz_settings σ 1) then openX (Sz_log σ) else Sz_log σ) key val len (Sz_time σ)) = Lz_end (Sz_log σ) + 1 := by
    split <;> rfl
  exact ⟨hL, h2, h.2.2.1, fun n hn => (h.2.2.2 n hn).to e1 (by rw [show Lz_end (Sz_log (wrS σ key val len)) = Lz_end (Sz_log σ) + 1 from e2]; omega) (Int.le_refl _) (Int.le_refl _)⟩
theorem q_write {key val len : Int} {Q : Int → SZ → Prop} (h : SOK σ T) (he : Lz_end (Sz_log σ) < 200) (hl : 1 ≤ len ∧ len ≤ 40) (k : Q (Lz_end (Sz_log σ)) (wrS σ key val len)) : Z_S_perform 0 key val len σ Q := by
  have h1 := h.1.1
  have h5 := h.1.len
  have h6 := h.1.bel0 (j := Lz_end (Sz_log σ)) (by omega) (by omega)
  unfold Z_S_perform
  refine ⟨fun _ => q_at (by decide) (by omega) (by omega) (q_at (by decide) (by omega) (by omega) (q_mkRoom h.1 (by omega) he (fun c => ?_) (fun c => ?_))), fun c => absurd rfl c⟩
  · rintro _ rfl
    refine q_add (by show 0 ≤ Lz_end (Sz_log σ); omega) he (by show 0 ≤ Lz_lengthsBelow (Sz_log σ) (Lz_end (Sz_log σ)).toNat ∧ Lz_lengthsBelow (Sz_log σ) (Lz_end (Sz_log σ)).toNat ≤ 8000; omega) h5 (by omega) ?_
    rintro _ rfl
    have e : wrS σ key val len = Sz_set_log σ (addX (openX (Sz_log σ)) key val len (Sz_time σ)) := congrArg (fun y => Sz_set_log σ (addX y key val len (Sz_time σ))) (if_pos c)
    rw [e] at k
    exact k
  · rintro _ rfl
    refine q_add (by show 0 ≤ Lz_end (Sz_log σ); omega) he (by show 0 ≤ Lz_lengthsBelow (Sz_log σ) (Lz_end (Sz_log σ)).toNat ∧ Lz_lengthsBelow (Sz_log σ) (Lz_end (Sz_log σ)).toNat ≤ 8000; omega) h5 (by omega) ?_
    rintro _ rfl
    have e : wrS σ key val len = Sz_set_log σ (addX (Sz_log σ) key val len (Sz_time σ)) := congrArg (fun y => Sz_set_log σ (addX y key val len (Sz_time σ))) (if_neg c)
    rw [e] at k
    exact k
theorem q_arrive {r : RZ} {time held : Int} {Q : RZ → Prop} (hh : held = 0 ∨ held = 1) (k : Q (Rz_values r, 1, Rz_hasLeft r, held, Rz_place r, 0, 0, time, 0)) : Z_R_arrive time held r Q := by
  unfold Z_R_arrive
  rintro _ rfl
  refine ⟨hh, ?_⟩
  rintro _ rfl _ rfl _ rfl _ rfl _ rfl
  exact k
theorem q_letIn {a : Nat} {how held : Int} {Q : Int → SZ → Prop} (h : SOK σ T) (hh : held = 0 ∨ held = 1) (k : ∀ vs pl, JoinV σ a how vs pl → Q pl (jnS σ a vs pl held)) : Z_S_letIn (some a) how held σ Q := by
  have h1 := h.1.1
  unfold Z_S_letIn
  refine ⟨fun c => (nomatch c), fun i c => ?_⟩
  cases c
  refine ⟨fun c0 => ⟨fun c1 => q_arrive hh ?_, fun c1 => ?_⟩, fun c0 => ?_⟩
  · rintro _ rfl
    rw [rd_eq]
    exact k _ _ ⟨fun q => absurd q c0, fun q => absurd q c1, fun _ _ => ⟨rfl, rfl⟩⟩
  · rintro _ rfl
    -- the values are told one by one
    have key : ∀ (n i : Nat) (vs : Nat → Int), i + n = 8 → (∀ m : Int, 0 ≤ m → m < i → vs m.toNat = toldX (Sz_log σ) m (Lz_end (Sz_log σ))) → ZL_S_letIn_57 (n + 1) (some a) how held a held i (Sz_seti_readers σ a (Rz_set_values (Rz_set_place (Sz_readers σ a) (Lz_end (Sz_log σ))) vs)) Q := by
      intro n
      induction n with
      | zero =>
        intro i vs hi hv
        rw [ZL_S_letIn_57]
        refine ⟨fun _ => ?_, fun c => absurd c (by omega)⟩
        rw [rd_eq]
        refine q_arrive hh ?_
        rintro _ rfl
        rw [rd_eq, seti2]
        exact k _ _ ⟨fun q => absurd q c0, fun _ => ⟨rfl, fun m m0 m1 => hv m m0 (by omega)⟩, fun _ q => absurd c1 q⟩
      | succ n ih =>
        intro i vs hi hv
        rw [ZL_S_letIn_57]
        refine ⟨fun c => absurd c (by omega), fun _ => q_toldForwards h.1 (by omega) (by omega) (by show Lz_first (Sz_log σ) ≤ Lz_end (Sz_log σ); omega) (Int.le_refl _) (q_put (by decide) (by omega) (by omega) ?_)⟩
        rintro _ rfl
        rw [rd_eq, seti2]
        refine ⟨by omega, ih (i + 1) _ (by omega) (fun m m0 m1 => ?_)⟩
        by_cases z : m = i
        · rw [z]
          exact updz_eq
        · have e : updz vs ((i : Int)).toNat (toldX (Sz_log σ) i (Lz_end (Sz_log σ))) m.toNat = vs m.toNat := updz_ne (by omega)
          exact e.trans (hv m m0 (by omega))
    exact ⟨_, key 8 0 (Rz_values (Sz_readers σ a)) rfl (fun m m0 m1 => absurd m1 (by omega))⟩
  · rintro _ rfl
    refine q_copy (by decide) ?_
    rintro _ rfl
    rw [rd_eq, seti2, rd_eq]
    refine q_arrive hh ?_
    rintro _ rfl
    rw [rd_eq, seti2]
    exact k _ _ ⟨fun _ => ⟨rfl, fun m m0 m1 => zcpz_lt (by omega)⟩, fun q => absurd q (by omega), fun q => absurd c0 q⟩
theorem SOK.jn {a : Nat} {vs : Nat → Int} {pl held : Int} (h : SOK σ T) (hh : held = 0 ∨ held = 1) (hp : 0 ≤ pl ∧ pl ≤ Lz_end (Sz_log σ)) (hf : held = 1 → Lz_first (Sz_log σ) ≤ pl) (ha : a < 8) : SOK (jnS σ a vs pl held) T := by
  have h2 := h.2.1
  refine h.seti ⟨Or.inr rfl, (h.2.2.2 a ha).2.1, hh, fun c => ⟨rfl, hf c⟩, fun _ => hp, fun _ => ?_⟩
  show (0 : Int) ≤ 0 ∧ (0 : Int) ≤ 200 * T ∧ (0 : Int) ≤ 0 ∧ (0 : Int) ≤ 200 * T ∧ 0 ≤ Sz_time σ ∧ Sz_time σ ≤ Sz_time σ
  omega
theorem q_letRead {a : Nat} {n : Int} {Q : Int → SZ → Prop} (h : SOK σ T) (ha : a < 8) (hp : Rz_present (Sz_readers σ a) = 1) (hn : 1 ≤ n ∧ n ≤ 50)
    (k0 : Lz_first (Sz_log σ) ≤ Rz_place (Sz_readers σ a) → Q (zminZ n (Lz_end (Sz_log σ) - Rz_place (Sz_readers σ a))) (rdS σ a (zminZ n (Lz_end (Sz_log σ) - Rz_place (Sz_readers σ a)))))
    (k1 : Rz_place (Sz_readers σ a) < Lz_first (Sz_log σ) → ∀ vs, (∀ k : Int, 0 ≤ k → k < 8 → vs k.toNat = Lz_dropValues (Sz_log σ) k.toNat) → Q (-(Lz_first (Sz_log σ) - Rz_place (Sz_readers σ a))) (gpS σ a vs)) : Z_S_letRead (some a) n σ Q := by
  have h1 := h.1.1
  have h2 := h.2.1
  have hr := h.2.2.2 a ha
  have h5 := hr.2.2.2.2.1 (Or.inl hp)
  have h6 := hr.2.2.2.2.2 hp
  unfold Z_S_letRead
  refine ⟨fun c => (nomatch c), fun i c => ?_⟩
  cases c
  rintro _ rfl
  rw [rd_eq]
  refine ⟨fun c0 => ?_, fun c0 => ?_⟩
  · have c0 : Lz_first (Sz_log σ) ≤ Rz_place (Sz_readers σ a) := c0
    have hm0 := zminZ_in (n := n) (m := Lz_end (Sz_log σ) - Rz_place (Sz_readers σ a)) (by omega) (by omega)
    have hm : 0 ≤ zminZ n (Lz_end (Sz_log σ) - Rz_place (Sz_readers σ a)) ∧ zminZ n (Lz_end (Sz_log σ) - Rz_place (Sz_readers σ a)) ≤ 50 ∧ zminZ n (Lz_end (Sz_log σ) - Rz_place (Sz_readers σ a)) ≤ Lz_end (Sz_log σ) - Rz_place (Sz_readers σ a) := ⟨hm0.1, Int.le_trans hm0.2.1 (by omega), hm0.2.2⟩
    refine ⟨by show -2147483648 ≤ Lz_end (Sz_log σ) - Rz_place (Sz_readers σ a) ∧ Lz_end (Sz_log σ) - Rz_place (Sz_readers σ a) < 2147483648; omega, ?_⟩
    have k0 := k0 c0
    show Z_S_readOn a (zminZ n (Lz_end (Sz_log σ) - Rz_place (Sz_readers σ a))) _ _
    generalize zminZ n (Lz_end (Sz_log σ) - Rz_place (Sz_readers σ a)) = y at k0 hm
    have key : ∀ (f : Nat) (i : Int) (vs : Nat → Int), i + f = y → 0 ≤ i → dropFn (Lz_keys (Sz_log σ)) (Lz_values (Sz_log σ)) f (Rz_place (Sz_readers σ a) + i) vs = dropFn (Lz_keys (Sz_log σ)) (Lz_values (Sz_log σ)) y.toNat (Rz_place (Sz_readers σ a)) (Rz_values (Sz_readers σ a)) → ZL_S_readOn_2 (f + 1) a y y i (Sz_seti_readers σ a (Rz_set_values (Rz_set_lastRead (Sz_readers σ a) (Sz_time σ)) vs)) (fun r12_ v16_ => Q r12_ v16_) := by
      intro f
      induction f with
      | zero =>
        intro i vs hi i0 hv
        have hv : vs = dropFn (Lz_keys (Sz_log σ)) (Lz_values (Sz_log σ)) y.toNat (Rz_place (Sz_readers σ a)) (Rz_values (Sz_readers σ a)) := hv
        rw [ZL_S_readOn_2, rd_eq]
        refine ⟨fun _ => ⟨by show -2147483648 ≤ Rz_place (Sz_readers σ a) + y ∧ Rz_place (Sz_readers σ a) + y < 2147483648; omega, ?_⟩, fun c => absurd c (by omega)⟩
        rintro _ rfl
        rw [rd_eq, seti2]
        refine ⟨by show -2147483648 ≤ Rz_readSoFar (Sz_readers σ a) + y ∧ Rz_readSoFar (Sz_readers σ a) + y < 2147483648; omega, ?_⟩
        rintro _ rfl
        rw [seti2, hv]
        exact k0
      | succ f ih =>
        intro i vs hi i0 hv
        have h7 := h.1.2.2.2.2.1 (Rz_place (Sz_readers σ a) + i).toNat (by omega)
        rw [ZL_S_readOn_2, rd_eq]
        refine ⟨fun c => absurd c (by omega), fun _ => ⟨by show -2147483648 ≤ Rz_place (Sz_readers σ a) + i ∧ Rz_place (Sz_readers σ a) + i < 2147483648; omega, ?_⟩⟩
        refine q_at (by decide) (by show 0 ≤ Rz_place (Sz_readers σ a) + i; omega) (by show Rz_place (Sz_readers σ a) + i < 200; omega) (q_at (by decide) (by show 0 ≤ Rz_place (Sz_readers σ a) + i; omega) (by show Rz_place (Sz_readers σ a) + i < 200; omega) (q_put (by decide) h7.1 h7.2.1 ?_))
        rintro _ rfl
        rw [seti2]
        refine ⟨by omega, ih (i + 1) _ (by omega) (by omega) ?_⟩
        rw [← hv, show Rz_place (Sz_readers σ a) + (i + 1) = Rz_place (Sz_readers σ a) + i + 1 by omega]
        rfl
    have h9 := key y.toNat 0 (Rz_values (Sz_readers σ a)) (by omega) (by omega) (by rw [Int.add_zero])
    exact ⟨_, h9⟩
  · have c0 : ¬ Lz_first (Sz_log σ) ≤ Rz_place (Sz_readers σ a) := c0
    unfold Z_S_tellGap
    rw [rd_eq]
    refine ⟨by show -2147483648 ≤ Lz_first (Sz_log σ) - Rz_place (Sz_readers σ a) ∧ Lz_first (Sz_log σ) - Rz_place (Sz_readers σ a) < 2147483648; omega, by show -2147483648 ≤ Rz_missedSoFar (Sz_readers σ a) + (Lz_first (Sz_log σ) - Rz_place (Sz_readers σ a)) ∧ Rz_missedSoFar (Sz_readers σ a) + (Lz_first (Sz_log σ) - Rz_place (Sz_readers σ a)) < 2147483648; omega, ?_⟩
    rintro _ rfl
    rw [seti2]
    refine ⟨by show -2147483648 ≤ Sz_missed σ + (Lz_first (Sz_log σ) - Rz_place (Sz_readers σ a)) ∧ Sz_missed σ + (Lz_first (Sz_log σ) - Rz_place (Sz_readers σ a)) < 2147483648; omega, ?_⟩
    rintro _ rfl _ rfl
    refine q_copy (by decide) ?_
    rintro _ rfl
    refine ⟨by show -2147483648 ≤ -(Lz_first (Sz_log σ) - Rz_place (Sz_readers σ a)) ∧ -(Lz_first (Sz_log σ) - Rz_place (Sz_readers σ a)) < 2147483648; omega, ?_⟩
    have k1 := k1 (by omega) (zcpz 8 (Lz_dropValues (Sz_log σ)) (Rz_values (Sz_readers σ a))) (fun m m0 m1 => zcpz_lt (by omega))
    have e : ∀ (r1 r2 r3 : RZ) (m : Int), Sz_seti_readers (Sz_seti_readers (Sz_set_missed (Sz_seti_readers σ a r1) m) a r2) a r3 = Sz_set_missed (Sz_seti_readers σ a r3) m := by
      intro r1 r2 r3 m
      rw [seti2]
      have e2 : (fun j => if j = a then r3 else (if j = a then r1 else Sz_readers σ j)) = fun j => if j = a then r3 else Sz_readers σ j := by
        funext j
        by_cases q : j = a
        · rw [if_pos q, if_pos q]
        · rw [if_neg q, if_neg q, if_neg q]
      exact congrArg (fun f => Sz_set_missed (Sz_set_readers σ f) m) e2
    rw [e, rd_eq]
    have e3 : ∀ (r1 : RZ) (m : Int), Sz_readers (Sz_set_missed (Sz_seti_readers σ a r1) m) a = r1 := fun r1 m => if_pos rfl
    rw [e3]
    exact k1
theorem SOK.rd {a : Nat} {n : Int} (h : SOK σ T) (hT : T + 1 ≤ 5000000) (ha : a < 8) (hp : Rz_present (Sz_readers σ a) = 1) (hn : 0 ≤ n ∧ n ≤ 50 ∧ n ≤ Lz_end (Sz_log σ) - Rz_place (Sz_readers σ a)) : SOK (rdS σ a n) (T + 1) := by
  have h2 := h.2.1
  have hr := h.2.2.2 a ha
  have h5 := hr.2.2.2.2.1 (Or.inl hp)
  have h6 := hr.2.2.2.2.2 hp
  refine (h.up hT).seti ⟨hr.1, hr.2.1, hr.2.2.1, fun c => ⟨hp, ?_⟩, fun _ => ?_, fun _ => ?_⟩
  · have := hr.2.2.2.1 c
    show Lz_first (Sz_log σ) ≤ Rz_place (Sz_readers σ a) + n
    omega
  · show 0 ≤ Rz_place (Sz_readers σ a) + n ∧ Rz_place (Sz_readers σ a) + n ≤ Lz_end (Sz_log σ)
    omega
  · show 0 ≤ Rz_readSoFar (Sz_readers σ a) + n ∧ Rz_readSoFar (Sz_readers σ a) + n ≤ 200 * (T + 1) ∧ 0 ≤ Rz_missedSoFar (Sz_readers σ a) ∧ Rz_missedSoFar (Sz_readers σ a) ≤ 200 * (T + 1) ∧ 0 ≤ Sz_time σ ∧ Sz_time σ ≤ Sz_time σ
    omega
theorem SOK.gp {a : Nat} {vs : Nat → Int} (h : SOK σ T) (hT : T + 1 ≤ 5000000) (ha : a < 8) (hp : Rz_present (Sz_readers σ a) = 1) (hg : Rz_place (Sz_readers σ a) < Lz_first (Sz_log σ)) : SOK (gpS σ a vs) (T + 1) := by
  have h1 := h.1.1
  have h2 := h.2.1
  have hr := h.2.2.2 a ha
  have h5 := hr.2.2.2.2.1 (Or.inl hp)
  have h6 := hr.2.2.2.2.2 hp
  have hs := (h.up hT).seti (e := a) (r := (vs, Rz_present (Sz_readers σ a), Rz_hasLeft (Sz_readers σ a), Rz_held (Sz_readers σ a), Lz_first (Sz_log σ), Rz_readSoFar (Sz_readers σ a), Rz_missedSoFar (Sz_readers σ a) + (Lz_first (Sz_log σ) - Rz_place (Sz_readers σ a)), Sz_time σ, Rz_lostBy (Sz_readers σ a))) ⟨hr.1, hr.2.1, hr.2.2.1, fun c => ⟨hp, Int.le_refl _⟩, fun _ => by
      show 0 ≤ Lz_first (Sz_log σ) ∧ Lz_first (Sz_log σ) ≤ Lz_end (Sz_log σ)
      omega, fun _ => by
      show 0 ≤ Rz_readSoFar (Sz_readers σ a) ∧ Rz_readSoFar (Sz_readers σ a) ≤ 200 * (T + 1) ∧ 0 ≤ Rz_missedSoFar (Sz_readers σ a) + (Lz_first (Sz_log σ) - Rz_place (Sz_readers σ a)) ∧ Rz_missedSoFar (Sz_readers σ a) + (Lz_first (Sz_log σ) - Rz_place (Sz_readers σ a)) ≤ 200 * (T + 1) ∧ 0 ≤ Sz_time σ ∧ Sz_time σ ≤ Sz_time σ
      omega⟩
  refine ⟨hs.1, ?_, hs.2.2.1, hs.2.2.2⟩
  show 0 ≤ Sz_time σ ∧ Sz_time σ ≤ T + 1 ∧ 0 ≤ Sz_lostByLength σ ∧ Sz_lostByLength σ ≤ 8 * (T + 1) ∧ 0 ≤ Sz_lostBySleep σ ∧ Sz_lostBySleep σ ≤ 8 * (T + 1) ∧ 0 ≤ Sz_missed σ + (Lz_first (Sz_log σ) - Rz_place (Sz_readers σ a)) ∧ Sz_missed σ + (Lz_first (Sz_log σ) - Rz_place (Sz_readers σ a)) ≤ 200 * (T + 1) ∧ T + 1 ≤ 5000000
  omega
theorem SOK.lv {a : Nat} (h : SOK σ T) (ha : a < 8) (hp : Rz_present (Sz_readers σ a) = 1) : SOK (lvS σ a) T := by
  have hr := h.2.2.2 a ha
  exact h.seti ⟨Or.inl rfl, Or.inr rfl, Or.inl rfl, fun c => absurd (show (0 : Int) = 1 from c) (by decide), fun _ => hr.2.2.2.2.1 (Or.inl hp), fun c => absurd (show (0 : Int) = 1 from c) (by decide)⟩
theorem q_letGo {a : Nat} {Q : Int → SZ → Prop} (h : SOK σ T) (ha : a < 8) (hp : Rz_present (Sz_readers σ a) = 1) (k : Q (readersN (lvS σ a)) (lvS σ a)) : Z_S_letGo (some a) σ Q := by
  unfold Z_S_letGo
  refine ⟨fun c => (nomatch c), fun i c => ?_⟩
  cases c
  unfold Z_R_depart
  rintro _ rfl _ rfl _ rfl _ rfl
  exact q_readerCount (h.lv ha hp) k
theorem SOK.hd {a : Nat} {b : Int} (h : SOK σ T) (ha : a < 8) (hp : Rz_present (Sz_readers σ a) = 1) (hb : b = 0 ∨ b = 1) (hg : b = 1 → Lz_first (Sz_log σ) ≤ Rz_place (Sz_readers σ a)) : SOK (hdS σ a b) T := by
  have hr := h.2.2.2 a ha
  exact h.seti ⟨hr.1, hr.2.1, hb, fun c => ⟨hp, hg c⟩, hr.2.2.2.2.1, hr.2.2.2.2.2⟩
theorem q_changeHold {a : Nat} {b : Int} {Q : Int → SZ → Prop} (h : SOK σ T) (ha : a < 8) (hb : b = 0 ∨ b = 1) (k : Q (Rz_held (Sz_readers σ a)) (hdS σ a b)) : Z_S_changeHold (some a) b σ Q := by
  have hr := h.2.2.2 a ha
  unfold Z_S_changeHold
  refine ⟨fun c => (nomatch c), fun i c => ?_⟩
  cases c
  refine q_asNumber (fun c => ⟨hb, ?_⟩) (fun c => ⟨hb, ?_⟩)
  · rintro _ rfl _ rfl
    rw [rd_eq, seti2]
    rw [c] at k
    exact k
  · rintro _ rfl _ rfl
    rw [rd_eq, seti2]
    rw [show Rz_held (Sz_readers σ a) = 1 by rcases hr.2.2.1 with q | q <;> omega] at k
    exact k
theorem q_change {what v : Int} {Q : Int → SZ → Prop} (h0 : 0 ≤ what) (h1 : what ≤ 5) (k : Q (Sz_settings σ what.toNat) (stS σ what v)) : Z_S_change what v σ Q := by
  unfold Z_S_change
  refine q_at (by decide) h0 (by omega) (q_put (by decide) h0 (by omega) ?_)
  rintro _ rfl
  exact k
end PQ

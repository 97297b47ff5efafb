/-! ### ticks -/
def chkAll (σ : SZ) : Nat → SZ
  | 0 => σ
  | n + 1 => chk (chkAll σ n) n
def dropS (σ : SZ) : SZ := Sz_set_log σ (dropX (Sz_log σ))
def dropAll : Nat → SZ → SZ
  | 0, σ => σ
  | n + 1, σ => if whyS σ = 0 then dropAll n (dropS σ) else σ
def tickS (σ : SZ) : SZ := dropAll 200 (chkAll (Sz_set_time σ (Sz_time σ + 1)) 8)
def ticksS : Nat → SZ → SZ
  | 0, σ => σ
  | n + 1, σ => ticksS n (tickS σ)
theorem sumN_zero {f : Nat → Int} : ∀ n : Nat, (∀ i : Nat, i < n → 0 ≤ f i) → sumN f n ≤ 0 → ∀ i : Nat, i < n → f i = 0 := by
  intro n
  induction n with
  | zero => intro _ _ i hi; exact absurd hi (Nat.not_lt_zero i)
  | succ n ih =>
    intro h0 h1 i hi
    have h2 : sumN f n + f n ≤ 0 := h1
    have h3 : 0 ≤ sumN f n := by
      have : ∀ m : Nat, m ≤ n → 0 ≤ sumN f m := by
        intro m
        induction m with
        | zero => intro _; exact Int.le_refl 0
        | succ m ihm =>
          intro hm
          have := ihm (by omega)
          have := h0 m (by omega)
          show 0 ≤ sumN f m + f m
          omega
      exact this n (Nat.le_refl n)
    have h4 := h0 n (by omega)
    by_cases q : i = n
    · subst q
      omega
    · exact ih (fun i hi => h0 i (by omega)) (by omega) i (by omega)
section PT
variable {σ : SZ} {T : Int}
theorem ROK.to {σ' : SZ} {T' : Int} {r : RZ} (h : ROK σ T r) (e1 : Lz_first (Sz_log σ') = Lz_first (Sz_log σ)) (e2 : Lz_end (Sz_log σ) ≤ Lz_end (Sz_log σ')) (e3 : Sz_time σ ≤ Sz_time σ') (e4 : T ≤ T') : ROK σ' T' r := by
  obtain ⟨h1, h2, h3, h4, h5, h6⟩ := h
  exact ⟨h1, h2, h3, fun c => ⟨(h4 c).1, by rw [e1]; exact (h4 c).2⟩, fun c => by have := h5 c; omega, fun c => by have := h6 c; omega⟩
theorem SOK.seti {e : Nat} {r : RZ} (h : SOK σ T) (hr : ROK σ T r) : SOK (Sz_seti_readers σ e r) T := by
  refine ⟨h.1, h.2.1, h.2.2.1, fun n hn => ?_⟩
  show ROK _ T (if n = e then r else Sz_readers σ n)
  by_cases q : n = e
  · rw [if_pos q]
    exact hr
  · rw [if_neg q]
    exact h.2.2.2 n hn
theorem rd_eq {e : Nat} {r : RZ} : Sz_readers (Sz_seti_readers σ e r) e = r := if_pos rfl
theorem rd_ne {e j : Nat} {r : RZ} (h : j ≠ e) : Sz_readers (Sz_seti_readers σ e r) j = Sz_readers σ j := if_neg h
theorem loseL_e {e : Nat} : Sz_readers (loseL σ e) e = Rz_set_held (Rz_set_lostBy (Sz_readers σ e) 1) 0 := by
  show (if e = e then Rz_set_held (if e = e then Rz_set_lostBy (Sz_readers σ e) 1 else Sz_readers σ e) 0 else _) = _
  rw [if_pos rfl, if_pos rfl]
theorem loseT_e {e : Nat} : Sz_readers (loseT σ e) e = Rz_set_held (Rz_set_lostBy (Sz_readers σ e) 2) 0 := by
  show (if e = e then Rz_set_held (if e = e then Rz_set_lostBy (Sz_readers σ e) 2 else Sz_readers σ e) 0 else _) = _
  rw [if_pos rfl, if_pos rfl]
theorem loseL_j {e j : Nat} (h : j ≠ e) : Sz_readers (loseL σ e) j = Sz_readers σ j := by
  show (if j = e then _ else if j = e then _ else Sz_readers σ j) = _
  rw [if_neg h, if_neg h]
theorem loseT_j {e j : Nat} (h : j ≠ e) : Sz_readers (loseT σ e) j = Sz_readers σ j := by
  show (if j = e then _ else if j = e then _ else Sz_readers σ j) = _
  rw [if_neg h, if_neg h]
theorem SOK.lsL {e : Nat} (h : SOK σ T) (he : e < 8) (hb : Sz_lostByLength σ + 1 ≤ 8 * T) : SOK (loseL σ e) T := by
  refine ⟨h.1, ?_, h.2.2.1, fun n hn => ?_⟩
  · have h2 := h.2.1
    show 0 ≤ Sz_time σ ∧ Sz_time σ ≤ T ∧ 0 ≤ Sz_lostByLength σ + 1 ∧ Sz_lostByLength σ + 1 ≤ 8 * T ∧ 0 ≤ Sz_lostBySleep σ ∧ Sz_lostBySleep σ ≤ 8 * T ∧ 0 ≤ Sz_missed σ ∧ Sz_missed σ ≤ 200 * T ∧ T ≤ 5000000
    omega
  · have h3 := h.2.2.2 n hn
    by_cases q : n = e
    · subst q
      rw [loseL_e]
      exact ⟨h3.1, h3.2.1, Or.inl rfl, fun c => absurd (show (0 : Int) = 1 from c) (by omega), h3.2.2.2.2.1, h3.2.2.2.2.2⟩
    · rw [loseL_j q]
      exact h3
theorem SOK.lsT {e : Nat} (h : SOK σ T) (he : e < 8) (hb : Sz_lostBySleep σ + 1 ≤ 8 * T) : SOK (loseT σ e) T := by
  refine ⟨h.1, ?_, h.2.2.1, fun n hn => ?_⟩
  · have h2 := h.2.1
    show 0 ≤ Sz_time σ ∧ Sz_time σ ≤ T ∧ 0 ≤ Sz_lostByLength σ ∧ Sz_lostByLength σ ≤ 8 * T ∧ 0 ≤ Sz_lostBySleep σ + 1 ∧ Sz_lostBySleep σ + 1 ≤ 8 * T ∧ 0 ≤ Sz_missed σ ∧ Sz_missed σ ≤ 200 * T ∧ T ≤ 5000000
    omega
  · have h3 := h.2.2.2 n hn
    by_cases q : n = e
    · subst q
      rw [loseT_e]
      exact ⟨h3.1, h3.2.1, Or.inl rfl, fun c => absurd (show (0 : Int) = 1 from c) (by omega), h3.2.2.2.2.1, h3.2.2.2.2.2⟩
    · rw [loseT_j q]
      exact h3
/-- what a check of a hold leaves as it is -/
theorem chk_keep {e : Nat} : Sz_log (chk σ e) = Sz_log σ ∧ Sz_settings (chk σ e) = Sz_settings σ ∧ Sz_time (chk σ e) = Sz_time σ ∧ Sz_missed (chk σ e) = Sz_missed σ ∧ Sz_lostByLength (chk σ e) ≤ Sz_lostByLength σ + 1 ∧ Sz_lostBySleep (chk σ e) ≤ Sz_lostBySleep σ + 1 := by
  unfold chk
  split
  · split
    · refine ⟨rfl, rfl, rfl, rfl, Int.le_refl _, ?_⟩
      show Sz_lostBySleep σ ≤ Sz_lostBySleep σ + 1
      omega
    · split
      · refine ⟨rfl, rfl, rfl, rfl, ?_, Int.le_refl _⟩
        show Sz_lostByLength σ ≤ Sz_lostByLength σ + 1
        omega
      · exact ⟨rfl, rfl, rfl, rfl, by omega, by omega⟩
  · exact ⟨rfl, rfl, rfl, rfl, by omega, by omega⟩
theorem SOK.ck {e : Nat} (h : SOK σ T) (he : e < 8) (hb : Sz_lostByLength σ + 1 ≤ 8 * T) (hc : Sz_lostBySleep σ + 1 ≤ 8 * T) : SOK (chk σ e) T := by
  unfold chk
  split
  · split
    · exact h.lsL he hb
    · split
      · exact h.lsT he hc
      · exact h
  · exact h
theorem chkAll_keep : ∀ n : Nat, Sz_log (chkAll σ n) = Sz_log σ ∧ Sz_settings (chkAll σ n) = Sz_settings σ ∧ Sz_time (chkAll σ n) = Sz_time σ ∧ Sz_missed (chkAll σ n) = Sz_missed σ ∧ Sz_lostByLength (chkAll σ n) ≤ Sz_lostByLength σ + n ∧ Sz_lostBySleep (chkAll σ n) ≤ Sz_lostBySleep σ + n := by
  intro n
  induction n with
  | zero => exact ⟨rfl, rfl, rfl, rfl, by show Sz_lostByLength σ ≤ Sz_lostByLength σ + 0; omega, by show Sz_lostBySleep σ ≤ Sz_lostBySleep σ + 0; omega⟩
  | succ n ih =>
    obtain ⟨a1, a2, a3, a4, a5, a6⟩ := chk_keep (σ := chkAll σ n) (e := n)
    exact ⟨a1.trans ih.1, a2.trans ih.2.1, a3.trans ih.2.2.1, a4.trans ih.2.2.2.1, by show Sz_lostByLength (chk (chkAll σ n) n) ≤ Sz_lostByLength σ + ((n + 1 : Nat) : Int); omega, by show Sz_lostBySleep (chk (chkAll σ n) n) ≤ Sz_lostBySleep σ + ((n + 1 : Nat) : Int); omega⟩
theorem SOK.ckAll (h : SOK σ T) (hb : Sz_lostByLength σ + 8 ≤ 8 * T) (hc : Sz_lostBySleep σ + 8 ≤ 8 * T) : ∀ n : Nat, n ≤ 8 → SOK (chkAll σ n) T := by
  intro n
  induction n with
  | zero => intro _; exact h
  | succ n ih =>
    intro hn
    have hk := chkAll_keep (σ := σ) n
    exact SOK.ck (ih (by omega)) (by omega) (by omega) (by omega)
theorem SOK.dr (h : SOK σ T) (hw : whyS σ = 0) : SOK (dropS σ) T := by
  have h1 := h.1.1
  unfold whyS at hw
  have hs : ¬ Lz_begun (Sz_log σ) - Lz_dropped (Sz_log σ) < 2 := fun q => by rw [if_pos q] at hw; exact absurd hw (by decide)
  rw [if_neg hs] at hw
  have hd : dueS σ (lnx (Sz_log σ) (Lz_dropped (Sz_log σ)) - 1) := Decidable.byContradiction fun q => by rw [if_pos q] at hw; exact absurd hw (by decide)
  rw [if_neg (fun q => q hd)] at hw
  have hh : ¬ 0 < holders σ (lnx (Sz_log σ) (Lz_dropped (Sz_log σ)) - 1) := fun q => by rw [if_pos q] at hw; exact absurd hw (by decide)
  have h6 := h.1.nx1 (j := Lz_dropped (Sz_log σ)) (by omega) (by omega)
  have hz0 := sumN_zero (f := hz σ (lnx (Sz_log σ) (Lz_dropped (Sz_log σ)) - 1)) 8 (fun i _ => by show 0 ≤ (if _ then _ else _ : Int); split <;> omega) (by show holders σ _ ≤ 0; omega)
  refine ⟨h.1.drop (by omega), h.2.1, h.2.2.1, fun n hn => ?_⟩
  have h3 := h.2.2.2 n hn
  refine ⟨h3.1, h3.2.1, h3.2.2.1, fun c => ⟨(h3.2.2.2.1 c).1, ?_⟩, h3.2.2.2.2.1, h3.2.2.2.2.2⟩
  have c : Rz_held (Sz_readers σ n) = 1 := c
  show lnx (Sz_log σ) (Lz_dropped (Sz_log σ)) ≤ Rz_place (Sz_readers σ n)
  have h4 := hz0 n hn
  have h5 : ¬ (Rz_held (Sz_readers σ n) = 1 ∧ Rz_place (Sz_readers σ n) ≤ lnx (Sz_log σ) (Lz_dropped (Sz_log σ)) - 1) := fun q => by
    have e : hz σ (lnx (Sz_log σ) (Lz_dropped (Sz_log σ)) - 1) n = 1 := if_pos q
    omega
  omega
theorem whyS_segs (hw : whyS σ = 0) : 2 ≤ Lz_begun (Sz_log σ) - Lz_dropped (Sz_log σ) := by
  unfold whyS at hw
  rcases Int.lt_or_le (Lz_begun (Sz_log σ) - Lz_dropped (Sz_log σ)) 2 with q | q
  · rw [if_pos q] at hw
    exact absurd hw (by decide)
  · exact q
theorem SOK.drAll : ∀ (n : Nat) {σ : SZ}, SOK σ T → SOK (dropAll n σ) T := by
  intro n
  induction n with
  | zero => intro σ h; exact h
  | succ n ih =>
    intro σ h
    show SOK (if whyS σ = 0 then dropAll n (dropS σ) else σ) T
    split
    · rename_i q
      exact ih (h.dr q)
    · exact h
theorem dropAll_keep : ∀ (n : Nat) {σ : SZ}, Sz_readers (dropAll n σ) = Sz_readers σ ∧ Sz_settings (dropAll n σ) = Sz_settings σ ∧ Sz_time (dropAll n σ) = Sz_time σ ∧ Sz_missed (dropAll n σ) = Sz_missed σ ∧ Lz_dropped (Sz_log σ) ≤ Lz_dropped (Sz_log (dropAll n σ)) ∧ Lz_end (Sz_log (dropAll n σ)) = Lz_end (Sz_log σ) ∧ Lz_first (Sz_log (dropAll n σ)) = Lz_first (Sz_log (dropAll n σ)) := by
  intro n
  induction n with
  | zero => intro σ; exact ⟨rfl, rfl, rfl, rfl, Int.le_refl _, rfl, rfl⟩
  | succ n ih =>
    intro σ
    by_cases q : whyS σ = 0
    · have e : dropAll (n + 1) σ = dropAll n (dropS σ) := if_pos q
      rw [e]
      obtain ⟨a1, a2, a3, a4, a5, a6, -⟩ := ih (σ := dropS σ)
      have a5 : Lz_dropped (Sz_log σ) + 1 ≤ Lz_dropped (Sz_log (dropAll n (dropS σ))) := a5
      exact ⟨a1, a2, a3, a4, by omega, a6, rfl⟩
    · have e : dropAll (n + 1) σ = σ := if_neg q
      rw [e]
      exact ⟨rfl, rfl, rfl, rfl, Int.le_refl _, rfl, rfl⟩
theorem SOK.time (h : SOK σ T) (hT : T + 1 ≤ 5000000) : SOK (Sz_set_time σ (Sz_time σ + 1)) (T + 1) := by
  have h2 := h.2.1
  refine ⟨?_, ?_, h.2.2.1, fun n hn => (h.2.2.2 n hn).to rfl (Int.le_refl _) (by show Sz_time σ ≤ Sz_time σ + 1; omega) (by omega)⟩
  · obtain ⟨g1, g2, g3, g4, g5, g6⟩ := h.1
    refine ⟨g1, g2, g3, g4, fun i hi => ?_, g6⟩
    have := g5 i hi
    show 0 ≤ Lz_keys (Sz_log σ) i ∧ Lz_keys (Sz_log σ) i < 8 ∧ 0 ≤ Lz_values (Sz_log σ) i ∧ Lz_values (Sz_log σ) i < 100 ∧ 0 ≤ Lz_times (Sz_log σ) i ∧ Lz_times (Sz_log σ) i ≤ Sz_time σ + 1
    omega
  · show 0 ≤ Sz_time σ + 1 ∧ Sz_time σ + 1 ≤ T + 1 ∧ 0 ≤ Sz_lostByLength σ ∧ Sz_lostByLength σ ≤ 8 * (T + 1) ∧ 0 ≤ Sz_lostBySleep σ ∧ Sz_lostBySleep σ ≤ 8 * (T + 1) ∧ 0 ≤ Sz_missed σ ∧ Sz_missed σ ≤ 200 * (T + 1) ∧ T + 1 ≤ 5000000
    omega
theorem SOK.tick (h : SOK σ T) (hT : T + 1 ≤ 5000000) : SOK (tickS σ) (T + 1) := by
  have h2 := h.2.1
  exact SOK.drAll 200 (SOK.ckAll (h.time hT) (by show Sz_lostByLength σ + 8 ≤ 8 * (T + 1); omega) (by show Sz_lostBySleep σ + 8 ≤ 8 * (T + 1); omega) 8 (by omega))
theorem SOK.ticks : ∀ (n : Nat) {σ : SZ} {T : Int}, SOK σ T → T + n ≤ 5000000 → SOK (ticksS n σ) (T + n) := by
  intro n
  induction n with
  | zero =>
    intro σ T h _
    rw [show T + ((0 : Nat) : Int) = T by omega]
    exact h
  | succ n ih =>
    intro σ T h hT
    have := ih (h.tick (by omega)) (by omega)
    rw [show T + ((n + 1 : Nat) : Int) = T + 1 + (n : Int) by omega]
    exact this
theorem tick_dropped : Lz_dropped (Sz_log σ) ≤ Lz_dropped (Sz_log (tickS σ)) := by
  have h1 := (dropAll_keep 200 (σ := chkAll (Sz_set_time σ (Sz_time σ + 1)) 8)).2.2.2.2.1
  have h2 := (chkAll_keep (σ := Sz_set_time σ (Sz_time σ + 1)) 8).1
  rw [h2] at h1
  exact h1
theorem ticks_dropped : ∀ (n : Nat) {σ : SZ}, Lz_dropped (Sz_log σ) ≤ Lz_dropped (Sz_log (ticksS n σ)) := by
  intro n
  induction n with
  | zero => intro σ; exact Int.le_refl _
  | succ n ih => intro σ; exact Int.le_trans tick_dropped (ih (σ := tickS σ))
theorem q_drops {y1 y2 y3 : Int} {x1 : Int} {K : Int → Int → Int → SZ → Prop} {Q : Int → SZ → Prop} (h3 : 0 ≤ y3 ∧ y3 < 1000) : ∀ (n : Nat) (σ : SZ) (i : Int), i + n = 200 → 0 ≤ i → SOK σ T → K y1 y2 (y3 + 1) (dropAll n σ) → ZL_S_passTime_55 (n + 1) x1 y1 y2 y3 i σ K Q := by
  intro n
  induction n with
  | zero =>
    intro σ i hi h0 h k
    rw [ZL_S_passTime_55]
    exact ⟨fun _ => ⟨by omega, k⟩, fun c => absurd c (by omega)⟩
  | succ n ih =>
    intro σ i hi h0 h k
    rw [ZL_S_passTime_55]
    have k : K y1 y2 (y3 + 1) (if whyS σ = 0 then dropAll n (dropS σ) else σ) := k
    refine ⟨fun c => absurd c (by omega), fun _ => q_firstStays h ⟨fun c => ⟨by omega, ?_⟩, fun c => ?_⟩⟩
    · rw [if_neg c] at k
      exact k
    · rw [if_pos c] at k
      refine q_dropFirst h.1 (whyS_segs c) ?_
      rintro _ rfl
      exact ⟨by omega, ih _ (i + 1) (by omega) (by omega) (h.dr c) k⟩
theorem q_checks {y1 y2 y3 : Int} {x1 : Int} {K : Int → Int → Int → SZ → Prop} {Q : Int → SZ → Prop} (h3 : 0 ≤ y3 ∧ y3 < 1000) (h : SOK σ T) (hb : Sz_lostByLength σ + 8 ≤ 8 * T) (hc : Sz_lostBySleep σ + 8 ≤ 8 * T) (k : K y1 y2 (y3 + 1) (dropAll 200 (chkAll σ 8))) : ∃ n, ZL_S_passTime_28 n x1 y1 y2 y3 0 σ K Q := by
  have key : ∀ (n i : Nat), i + n = 8 → ZL_S_passTime_28 (n + 1) x1 y1 y2 y3 i (chkAll σ i) K Q := by
    intro n
    induction n with
    | zero =>
      intro i hi
      have e : i = 8 := by omega
      subst e
      rw [ZL_S_passTime_28]
      exact ⟨fun _ => ⟨_, q_drops h3 200 _ 0 (by omega) (by omega) (h.ckAll hb hc 8 (by omega)) k⟩, fun c => absurd c (by omega)⟩
    | succ n ih =>
      intro i hi
      rw [ZL_S_passTime_28]
      refine ⟨fun c => absurd c (by omega), fun _ => ⟨⟨by omega, by omega⟩, ?_⟩⟩
      rw [show ((i : Int)).toNat = i by omega]
      exact q_checkHold (h.ckAll hb hc i (by omega)) (by omega) ⟨by omega, ih (i + 1) (by omega)⟩
  exact ⟨_, key 8 0 rfl⟩
theorem q_passTime {n : Nat} {Q : Int → SZ → Prop} (h : SOK σ T) (hn : n ≤ 999) (hT : T + n ≤ 5000000) (k : Q (Lz_dropped (Sz_log (ticksS n σ)) - Lz_dropped (Sz_log σ)) (ticksS n σ)) : Z_S_passTime n σ Q := by
  have h1 := h.1.1
  have key : ∀ (f : Nat) (i : Nat) (τ : SZ) (T' : Int), i + f = n → SOK τ T' → T' + f ≤ 5000000 → Q (Lz_dropped (Sz_log (ticksS f τ)) - Lz_dropped (Sz_log σ)) (ticksS f τ) → ZL_S_passTime_10 (f + 1) n n (Lz_dropped (Sz_log σ)) i τ Q := by
    intro f
    induction f with
    | zero =>
      intro i τ T' hi hs ht kk
      rw [ZL_S_passTime_10]
      have h2 := hs.1.1
      exact ⟨fun _ => ⟨by omega, kk⟩, fun c => absurd c (by omega)⟩
    | succ f ih =>
      intro i τ T' hi hs ht kk
      rw [ZL_S_passTime_10]
      have h2 := hs.2.1
      refine ⟨fun c => absurd c (by omega), fun _ => ⟨by omega, ?_⟩⟩
      rintro _ rfl
      have h9 := ih (i + 1) (tickS τ) (T' + 1) (by omega) (hs.tick (by omega)) (by omega) kk
      exact q_checks (by omega) (hs.time (by omega)) (by show Sz_lostByLength τ + 8 ≤ 8 * (T' + 1); omega) (by show Sz_lostBySleep τ + 8 ≤ 8 * (T' + 1); omega) h9
  exact ⟨_, key n 0 σ T (by omega) h hT k⟩
end PT

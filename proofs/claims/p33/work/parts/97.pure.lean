/-! ### what is kept -/
theorem lgp {x y : Int} : 0 < lg_cmpZ x y ↔ y < x := by
  unfold lg_cmpZ
  split
  · exact ⟨fun _ => by omega, fun _ => by decide⟩
  · split
    · exact ⟨fun h => absurd h (by decide), fun h => by omega⟩
    · exact ⟨fun h => absurd h (by decide), fun h => by omega⟩
theorem lgn {x y : Int} : 0 ≤ lg_cmpZ x y ↔ y ≤ x := by
  unfold lg_cmpZ
  split
  · exact ⟨fun _ => by omega, fun _ => by decide⟩
  · split
    · exact ⟨fun _ => by omega, fun h => by decide⟩
    · exact ⟨fun h => absurd h (by decide), fun h => by omega⟩
theorem sumN_le {f g : Nat → Int} : ∀ n : Nat, (∀ i : Nat, i < n → f i ≤ g i) → sumN f n ≤ sumN g n := by
  intro n
  induction n with
  | zero => intro _; exact Int.le_refl 0
  | succ n ih =>
    intro h
    have h1 := ih (fun i hi => h i (by omega))
    have h2 := h n (by omega)
    show sumN f n + f n ≤ sumN g n + g n
    omega
theorem wl_ok {n : Int} (h : -100000 ≤ n ∧ n ≤ 100000) : wl n = n := wl_id (by omega)
/-- the least place of a held reader below n, the end where there is none -/
def lsF (σ : SZ) : Nat → Int
  | 0 => Lz_end (Sz_log σ)
  | n + 1 => if Rz_held (Sz_readers σ n) = 1 ∧ Rz_place (Sz_readers σ n) < lsF σ n then Rz_place (Sz_readers σ n) else lsF σ n
def slOK (σ : SZ) (i : Nat) (best : Int) : Prop := (best = -1 ∧ (∀ n : Nat, n < i → ¬ Rz_held (Sz_readers σ n) = 1) ∧ lsF σ i = Lz_end (Sz_log σ)) ∨ ((0 ≤ best ∧ best < i) ∧ Rz_held (Sz_readers σ best.toNat) = 1 ∧ Rz_place (Sz_readers σ best.toNat) = lsF σ i)
theorem slow_ok {σ : SZ} {T : Int} (h : SOK σ T) : ∀ (n i : Nat) (best : Int), i + n = 8 → slOK σ i best → slOK σ 8 (slowF σ n i best) := by
  intro n
  induction n with
  | zero =>
    intro i best hi hb
    have e : i = 8 := by omega
    subst e
    exact hb
  | succ n ih =>
    intro i best hi hb
    have g := h.2.2.2 i (by omega)
    show slOK σ 8 (slowF σ n ((i : Int) + 1) (slowS σ i best))
    have key : slOK σ (i + 1) (slowS σ i best) := by
      have e0 : ((i : Int)).toNat = i := by omega
      have es : slowS σ i best = if Rz_held (Sz_readers σ i) = 1 ∧ (best = -1 ∨ Rz_place (Sz_readers σ i) < Rz_place (Sz_readers σ best.toNat)) then (i : Int) else best := by
        show (if Rz_held (Sz_readers σ ((i : Int)).toNat) = 1 ∧ (best = -1 ∨ Rz_place (Sz_readers σ ((i : Int)).toNat) < Rz_place (Sz_readers σ best.toNat)) then (i : Int) else best) = _
        rw [e0]
      have el : lsF σ (i + 1) = if Rz_held (Sz_readers σ i) = 1 ∧ Rz_place (Sz_readers σ i) < lsF σ i then Rz_place (Sz_readers σ i) else lsF σ i := rfl
      rw [es]
      by_cases hh : Rz_held (Sz_readers σ i) = 1
      · have hp := g.2.2.2.2.1 (Or.inl (g.2.2.2.1 hh).1)
        rcases hb with ⟨b1, b2, b3⟩ | ⟨b1, b2, b3⟩
        · rw [if_pos ⟨hh, Or.inl b1⟩]
          refine Or.inr ⟨by omega, by rw [e0]; exact hh, ?_⟩
          rw [e0, el]
          by_cases q : Rz_place (Sz_readers σ i) < lsF σ i
          · rw [if_pos ⟨hh, q⟩]
          · rw [if_neg (fun k => q k.2)]
            omega
        · by_cases q : Rz_place (Sz_readers σ i) < lsF σ i
          · rw [if_pos ⟨hh, Or.inr (by omega)⟩]
            refine Or.inr ⟨by omega, by rw [e0]; exact hh, ?_⟩
            rw [e0, el, if_pos ⟨hh, q⟩]
          · rw [if_neg (fun k => by rcases k.2 with z | z <;> omega)]
            refine Or.inr ⟨by omega, b2, ?_⟩
            rw [el, if_neg (fun k => q k.2)]
            exact b3
      · rw [if_neg (fun k => hh k.1)]
        rw [slOK, el, if_neg (fun k => hh k.1)]
        rcases hb with ⟨b1, b2, b3⟩ | ⟨b1, b2, b3⟩
        · refine Or.inl ⟨b1, fun m hm => ?_, b3⟩
          by_cases q : m = i
          · rw [q]
            exact hh
          · exact b2 m (by omega)
        · exact Or.inr ⟨by omega, b2, b3⟩
    have g2 := ih (i + 1) (slowS σ i best) (by omega) key
    rw [show (((i + 1 : Nat)) : Int) = (i : Int) + 1 by omega] at g2
    exact g2
theorem slow_end {σ : SZ} {T : Int} (h : SOK σ T) : (holders σ (Lz_end (Sz_log σ)) = 0 → slowF σ 8 0 (-1) = -1) ∧ (holders σ (Lz_end (Sz_log σ)) ≠ 0 → isR σ (slowF σ 8 0 (-1)) ∧ Rz_held (Sz_readers σ (slowF σ 8 0 (-1)).toNat) = 1 ∧ Rz_place (Sz_readers σ (slowF σ 8 0 (-1)).toNat) = lsF σ 8) := by
  have g : slOK σ 8 (slowF σ 8 0 (-1)) := slow_ok h 8 0 (-1) rfl (Or.inl ⟨rfl, fun n hn => absurd hn (by omega), rfl⟩)
  generalize slowF σ 8 0 (-1) = s at g
  rcases g with ⟨b1, b2, b3⟩ | ⟨b1, b2, b3⟩
  · refine ⟨fun _ => b1, fun c => absurd ?_ c⟩
    have e : sumN (hz σ (Lz_end (Sz_log σ))) 8 = sumN (fun _ => 0) 8 := sumN_congr 8 (fun i hi => if_neg (fun q => b2 i hi q.1))
    exact e.trans (by decide)
  · have gr := h.2.2.2 s.toNat (by omega)
    have hp := gr.2.2.2.1 b2
    have hp2 := gr.2.2.2.2.1 (Or.inl hp.1)
    refine ⟨fun c => ?_, fun _ => ⟨⟨⟨b1.1, by omega⟩, hp.1⟩, b2, b3⟩⟩
    have z := sumN_zero (f := hz σ (Lz_end (Sz_log σ))) 8 (fun i _ => by show 0 ≤ (if _ then _ else _ : Int); split <;> omega) (by show holders σ _ ≤ 0; omega) s.toNat (by omega)
    have e : hz σ (Lz_end (Sz_log σ)) s.toNat = 1 := if_pos ⟨b2, hp2.2⟩
    omega
section KP
variable {v : TZ} {T : Int} {Q : Int → Prop}
theorem kp_782 (h : TOK v T) (k : Q 1) : ZJ_LAW_kept_782 v (whyS (Tz_state v)) Q := by
  refine ⟨fun _ => k, fun c => ?_⟩
  have h1 := h.1.1.1.1
  unfold whyS at c
  by_cases q : Lz_begun (Sz_log (Tz_state v)) - Lz_dropped (Sz_log (Tz_state v)) < 2
  · rw [if_pos q] at c
    exact absurd c (by decide)
  · rw [if_neg q] at c
    by_cases d : ¬ dueS (Tz_state v) (lnx (Sz_log (Tz_state v)) (Lz_dropped (Sz_log (Tz_state v))) - 1)
    · refine q_seg4 h.1.1 (by decide) (by omega) ?_
      rw [show Lz_dropped (Sz_log (Tz_state v)) + 0 = Lz_dropped (Sz_log (Tz_state v)) by omega, if_neg d]
      exact ck rfl k
    · rw [if_neg d] at c
      split at c <;> exact absurd c (by decide)
theorem kp_768 (h : TOK v T) (k : Q 1) {u : Int} : ZJ_LAW_kept_768 v (holders (Tz_state v) (Lz_end (Sz_log (Tz_state v)))) (whyS (Tz_state v)) u u Q := by
  refine ⟨fun c => absurd rfl c, fun _ => ⟨fun _ => kp_782 h k, fun c => ⟨fun d => ?_, fun _ => kp_782 h k⟩⟩⟩
  exfalso
  have h1 := h.1.1.1.1
  unfold whyS at c
  by_cases q : Lz_begun (Sz_log (Tz_state v)) - Lz_dropped (Sz_log (Tz_state v)) < 2
  · rw [if_pos q] at c
    exact absurd c (by decide)
  · rw [if_neg q] at c
    have n1 := h.1.1.1.nx1 (j := Lz_dropped (Sz_log (Tz_state v))) (by omega) (by omega)
    by_cases d2 : ¬ dueS (Tz_state v) (lnx (Sz_log (Tz_state v)) (Lz_dropped (Sz_log (Tz_state v))) - 1)
    · rw [if_pos d2] at c
      exact absurd c (by decide)
    · rw [if_neg d2] at c
      by_cases d3 : 0 < holders (Tz_state v) (lnx (Sz_log (Tz_state v)) (Lz_dropped (Sz_log (Tz_state v))) - 1)
      · have m : holders (Tz_state v) (lnx (Sz_log (Tz_state v)) (Lz_dropped (Sz_log (Tz_state v))) - 1) ≤ holders (Tz_state v) (Lz_end (Sz_log (Tz_state v))) := sumN_le 8 (fun i _ => by
          show (if _ then _ else _ : Int) ≤ (if _ then _ else _ : Int)
          split
          · rename_i z
            rw [if_pos ⟨z.1, by omega⟩]
            decide
          · split <;> decide)
        omega
      · rw [if_neg d3] at c
        exact absurd c (by decide)
theorem kp_746 (h : TOK v T) (k : Q 1) : ZJ_LAW_kept_746 v (Lz_begun (Sz_log (Tz_state v)) - Lz_dropped (Sz_log (Tz_state v))) (holders (Tz_state v) (Lz_end (Sz_log (Tz_state v)))) (whyS (Tz_state v)) Q := by
  have w1 : Lz_begun (Sz_log (Tz_state v)) - Lz_dropped (Sz_log (Tz_state v)) < 2 → whyS (Tz_state v) = 1 := fun q => if_pos q
  have w2 : ¬ Lz_begun (Sz_log (Tz_state v)) - Lz_dropped (Sz_log (Tz_state v)) < 2 → whyS (Tz_state v) ≠ 1 := fun q => by
    unfold whyS
    rw [if_neg q]
    split
    · decide
    · split <;> decide
  refine ⟨fun c => ?_, fun c => ?_⟩
  · have n := w2 (by omega)
    exact ⟨fun _ => kp_768 h k, fun d => absurd d n⟩
  · exact ⟨fun d => absurd (w1 (by omega)) d, fun _ => kp_768 h k⟩
theorem kp_653 (h : TOK v T) (k : Q 1) : ZJ_LAW_kept_653 v (Lz_begun (Sz_log (Tz_state v)) - Lz_dropped (Sz_log (Tz_state v))) 1 (readersN (Tz_state v)) (holders (Tz_state v) (Lz_end (Sz_log (Tz_state v)))) (sumN (gz (Tz_state v)) 8) (lsF (Tz_state v) 8) Q := by
  have hS := h.1.1
  have se := slow_end hS
  refine q_T_slowest hS (q_T_why hS ⟨fun c => absurd c (by decide), fun _ => ?_⟩)
  refine q_LAW_about hS (ck (if_pos ⟨by decide, by decide⟩) ?_)
  refine q_LAW_about hS (ck (if_pos ⟨by decide, by decide⟩) ?_)
  refine q_LAW_about hS (ck (if_pos ⟨by decide, by decide⟩) ⟨fun c => ?_, fun c => ?_⟩)
  · obtain ⟨s1, s2, s3⟩ := se.2 c
    refine q_LAW_readerOf hS (ck ((rd_in s1 ⟨by decide, by decide⟩).trans s3) ?_)
    exact q_LAW_readerOf hS (ck ((rd_in s1 ⟨by decide, by decide⟩).trans s2) (kp_746 h k))
  · exact ⟨fun d => absurd (se.1 c) d, fun _ => kp_746 h k⟩
/-- what a reader has in its table -/
theorem kp_592 {K : Int → Int → Int → Int → Int → Int → Int → Int → Int → Prop} {y1 y3 y9 y11 y12 y13 y14 a g : Int} (h : TOK v T) (i : isR (Tz_state v) a) (hg : g = 0 → Lz_first (Sz_log (Tz_state v)) ≤ Rz_place (Sz_readers (Tz_state v) a.toNat)) (kk : K y1 y3 y9 1 y11 y12 y13 y14 (a + 1)) : ∀ (n : Nat) (k : Int), k + n = 8 → 0 ≤ k → ZL_LAW_kept_592 (n + 1) v y1 y3 y9 1 y11 y12 y13 y14 a (Rz_place (Sz_readers (Tz_state v) a.toNat)) g k K Q := by
  have hS := h.1.1
  have ha := i.1
  have h1 := hS.1.1
  have gp := (hS.2.2.2 a.toNat (by omega)).2.2.2.2.1 (Or.inl i.2)
  have gt := (h.1.2.2 a.toNat (by omega)).2 (Or.inl i.2)
  intro n
  induction n with
  | zero =>
    intro k hk h0
    rw [ZL_LAW_kept_592]
    exact ⟨fun _ => ⟨by omega, kk⟩, fun c => absurd (by omega) c⟩
  | succ n ih =>
    intro k hk h0
    rw [ZL_LAW_kept_592]
    refine ⟨fun c => absurd c (by omega), fun _ => ⟨fun c => absurd c (by decide), fun _ => ⟨fun _ => ⟨by omega, kk⟩, fun c => ?_⟩⟩⟩
    have hp := hg c
    refine q_LAW_table hS (q_LAW_truth hS ?_)
    have m2 := tmB h0 (n := 2) (by decide)
    have e1 : tbW (Tz_state v) a k = Rz_values (Sz_readers (Tz_state v) a.toNat) k.toNat := (if_pos i).trans (if_pos ⟨h0, by omega⟩)
    have e2 : trW (Tz_state v) k (wi (Rz_place (Sz_readers (Tz_state v) a.toNat))) (Int.tmod k 2) = toldX (Sz_log (Tz_state v)) k (Rz_place (Sz_readers (Tz_state v) a.toNat)) := by
      rw [wi_ok (by omega)]
      exact (if_pos ⟨hp, gp.2⟩).trans (if_pos ⟨⟨h0, by omega⟩, ⟨by omega, by omega⟩⟩)
    have e3 := gt hp k.toNat (by omega)
    rw [show ((k.toNat : Nat) : Int) = k by omega] at e3
    rw [e1, e2]
    exact ck e3 ⟨by omega, ih (k + 1) (by omega) (by omega)⟩
/-- one reader -/
theorem kp_410 {K : Int → Int → Int → Int → Int → Int → Int → Int → Int → Prop} {y9 : Int} {a : Nat} (h : TOK v T) (ha : a < 8) (i : isR (Tz_state v) a) (kk : K (Lz_first (Sz_log (Tz_state v))) (Lz_end (Sz_log (Tz_state v))) y9 1 (sumN (cz (Tz_state v)) (a + 1)) (sumN (hz (Tz_state v) (Lz_end (Sz_log (Tz_state v)))) (a + 1)) (sumN (gz (Tz_state v)) (a + 1)) (lsF (Tz_state v) (a + 1)) ((a : Int) + 1)) : ZJ_LAW_kept_410 v (Lz_first (Sz_log (Tz_state v))) (Lz_end (Sz_log (Tz_state v))) y9 (sumN (cz (Tz_state v)) a) (sumN (hz (Tz_state v) (Lz_end (Sz_log (Tz_state v)))) a) (sumN (gz (Tz_state v)) a) (lsF (Tz_state v) a) a (Rz_place (Sz_readers (Tz_state v) a)) (if Rz_held (Sz_readers (Tz_state v) a) = 1 then 1 else 0) K Q := by
  have hS := h.1.1
  have h1 := hS.1.1
  have e0 : ((a : Int)).toNat = a := by omega
  have ip : Rz_present (Sz_readers (Tz_state v) a) = 1 := by have := i.2; rw [e0] at this; exact this
  have gr := hS.2.2.2 a ha
  have gp := gr.2.2.2.2.1 (Or.inl ip)
  have g6 := gr.2.2.2.2.2 ip
  have gl := (h.1.2.2 a ha).1
  have b1 := sumN_in (f := cz (Tz_state v)) a (fun j _ => by show 0 ≤ (if _ then _ else _ : Int) ∧ (if _ then _ else _ : Int) ≤ 1; split <;> omega)
  have b2 := sumN_in (f := hz (Tz_state v) (Lz_end (Sz_log (Tz_state v)))) a (fun j _ => by show 0 ≤ (if _ then _ else _ : Int) ∧ (if _ then _ else _ : Int) ≤ 1; split <;> omega)
  have b3 := sumN_in (f := gz (Tz_state v)) a (fun j _ => by show 0 ≤ (if _ then _ else _ : Int) ∧ (if _ then _ else _ : Int) ≤ 1; split <;> omega)
  have s1 : sumN (cz (Tz_state v)) (a + 1) = sumN (cz (Tz_state v)) a + 1 := by
    show sumN (cz (Tz_state v)) a + (if _ then _ else _ : Int) = _
    rw [if_pos ip]
  have s2 : sumN (hz (Tz_state v) (Lz_end (Sz_log (Tz_state v)))) (a + 1) = sumN (hz (Tz_state v) (Lz_end (Sz_log (Tz_state v)))) a + (if Rz_held (Sz_readers (Tz_state v) a) = 1 then 1 else 0) := by
    show sumN (hz (Tz_state v) (Lz_end (Sz_log (Tz_state v)))) a + (if Rz_held (Sz_readers (Tz_state v) a) = 1 ∧ Rz_place (Sz_readers (Tz_state v) a) ≤ Lz_end (Sz_log (Tz_state v)) then 1 else 0) = _
    by_cases q : Rz_held (Sz_readers (Tz_state v) a) = 1
    · rw [if_pos q, if_pos ⟨q, gp.2⟩]
    · rw [if_neg q, if_neg (fun z => q z.1)]
  have s3 : sumN (gz (Tz_state v)) (a + 1) = sumN (gz (Tz_state v)) a + (if Rz_place (Sz_readers (Tz_state v) a) < Lz_first (Sz_log (Tz_state v)) then 1 else 0) := by
    show sumN (gz (Tz_state v)) a + (if Rz_present (Sz_readers (Tz_state v) a) = 1 ∧ Rz_place (Sz_readers (Tz_state v) a) < Lz_first (Sz_log (Tz_state v)) then 1 else 0) = _
    by_cases q : Rz_place (Sz_readers (Tz_state v) a) < Lz_first (Sz_log (Tz_state v))
    · rw [if_pos q, if_pos ⟨ip, q⟩]
    · rw [if_neg q, if_neg (fun z => q z.2)]
  have s4 : lsF (Tz_state v) (a + 1) = if Rz_held (Sz_readers (Tz_state v) a) = 1 ∧ Rz_place (Sz_readers (Tz_state v) a) < lsF (Tz_state v) a then Rz_place (Sz_readers (Tz_state v) a) else lsF (Tz_state v) a := rfl
  have hi : isR (Tz_state v) ((a : Nat) : Int) := i
  have tb : ∀ (g : Int) {w11 w12 w13 w14 : Int}, (g = 0 → Lz_first (Sz_log (Tz_state v)) ≤ Rz_place (Sz_readers (Tz_state v) a)) → K (Lz_first (Sz_log (Tz_state v))) (Lz_end (Sz_log (Tz_state v))) y9 1 w11 w12 w13 w14 ((a : Int) + 1) → ∃ n, n ≤ 9 ∧ ZL_LAW_kept_592 n v (Lz_first (Sz_log (Tz_state v))) (Lz_end (Sz_log (Tz_state v))) y9 1 w11 w12 w13 w14 a (Rz_place (Sz_readers (Tz_state v) a)) g 0 (fun a0 a1 a2 a3 a4 a5 a6 a7 a8 => K a0 a1 a2 a3 a4 a5 a6 a7 a8) Q := by
    intro g w11 w12 w13 w14 hg kk2
    have m := kp_592 (Q := Q) (K := K) h hi (g := g) (by rw [e0]; exact hg) kk2 8 0 (by decide) (by decide)
    rw [e0] at m
    exact ⟨9, by decide, m⟩
  have rdv : ∀ k : Int, 0 ≤ k → k ≤ 8 → rdW (Tz_state v) a k = rdF (Tz_state v) (Sz_readers (Tz_state v) a) k.toNat := fun k k0 k1 => by
    have m := rd_in hi ⟨k0, k1⟩
    rw [e0] at m
    exact m
  -- behind the number of missing rows
  have j542 : ∀ (hf g u0 u2 : Int) {w11 w12 w13 w14 : Int}, (hf = 0 ∨ hf = 1 ∧ Rz_held (Sz_readers (Tz_state v) a) = 1) → (g = 0 → Lz_first (Sz_log (Tz_state v)) ≤ Rz_place (Sz_readers (Tz_state v) a)) → u2 = Lz_end (Sz_log (Tz_state v)) - u0 → (0 ≤ u0 ∧ u0 ≤ 200) → K (Lz_first (Sz_log (Tz_state v))) (Lz_end (Sz_log (Tz_state v))) y9 1 w11 w12 w13 w14 ((a : Int) + 1) → ZJ_LAW_kept_542 v (Lz_first (Sz_log (Tz_state v))) (Lz_end (Sz_log (Tz_state v))) y9 w11 w12 w13 w14 a (Rz_place (Sz_readers (Tz_state v) a)) hf g u0 (Lz_end (Sz_log (Tz_state v))) u2 (fun a0 a1 a2 a3 a4 a5 a6 a7 a8 => K a0 a1 a2 a3 a4 a5 a6 a7 a8) Q := by
    intro hf g u0 u2 w11 w12 w13 w14 hhf hg hu hu0 kk2
    unfold ZJ_LAW_kept_542
    refine ck (by rw [wl_ok (by omega)]; exact hu) (q_LAW_readerOf hS (q_LAW_about hS ?_))
    have e4 : rdW (Tz_state v) a 4 = Rz_lastRead (Sz_readers (Tz_state v) a) := rdv 4 (by decide) (by decide)
    have e7 : abW (Tz_state v) 7 = Sz_time (Tz_state v) := if_pos ⟨by decide, by decide⟩
    rw [e4, e7]
    refine ⟨fun c => absurd (lgp.mp c) (by omega), fun _ => ⟨fun _ => tb g hg kk2, fun c => ?_⟩⟩
    have e8 : rdW (Tz_state v) a 8 = Rz_lostBy (Sz_readers (Tz_state v) a) := rdv 8 (by decide) (by decide)
    have hh : Rz_held (Sz_readers (Tz_state v) a) = 1 := by
      rcases hhf with q | q
      · exact absurd q c
      · exact q.2
    exact q_LAW_readerOf hS (ck (e8.trans (gl hh)) (tb g hg kk2))
  have j498 : ∀ (hf g : Int) {w11 w12 w13 w14 : Int}, (hf = 0 ∨ hf = 1 ∧ Rz_held (Sz_readers (Tz_state v) a) = 1) → (g = 0 ∧ Lz_first (Sz_log (Tz_state v)) ≤ Rz_place (Sz_readers (Tz_state v) a) ∨ g = 1 ∧ Rz_place (Sz_readers (Tz_state v) a) < Lz_first (Sz_log (Tz_state v))) → K (Lz_first (Sz_log (Tz_state v))) (Lz_end (Sz_log (Tz_state v))) y9 1 w11 w12 w13 w14 ((a : Int) + 1) → ZJ_LAW_kept_498 v (Lz_first (Sz_log (Tz_state v))) (Lz_end (Sz_log (Tz_state v))) y9 w11 w12 w13 w14 a (Rz_place (Sz_readers (Tz_state v) a)) hf g (fun a0 a1 a2 a3 a4 a5 a6 a7 a8 => K a0 a1 a2 a3 a4 a5 a6 a7 a8) Q := by
    intro hf g w11 w12 w13 w14 hhf hg kk2
    have e7 : rdW (Tz_state v) a 7 = zmaxZ (Lz_first (Sz_log (Tz_state v)) - Rz_place (Sz_readers (Tz_state v) a)) 0 := rdv 7 (by decide) (by decide)
    have e5 : rdW (Tz_state v) a 5 = Lz_end (Sz_log (Tz_state v)) - zmaxZ (Rz_place (Sz_readers (Tz_state v) a)) (Lz_first (Sz_log (Tz_state v))) := rdv 5 (by decide) (by decide)
    have hg2 : g = 0 → Lz_first (Sz_log (Tz_state v)) ≤ Rz_place (Sz_readers (Tz_state v) a) := fun q => by rcases hg with z | z <;> omega
    have m1 : zmaxZ (Lz_first (Sz_log (Tz_state v)) - Rz_place (Sz_readers (Tz_state v) a)) 0 = if g = 0 then 0 else Lz_first (Sz_log (Tz_state v)) - Rz_place (Sz_readers (Tz_state v) a) := by
      show (if Lz_first (Sz_log (Tz_state v)) - Rz_place (Sz_readers (Tz_state v) a) < 0 then 0 else Lz_first (Sz_log (Tz_state v)) - Rz_place (Sz_readers (Tz_state v) a)) = _
      rcases hg with z | z
      · rw [if_pos z.1]
        split <;> omega
      · rw [if_neg (show ¬ Lz_first (Sz_log (Tz_state v)) - Rz_place (Sz_readers (Tz_state v) a) < 0 by omega), if_neg (show ¬ g = 0 by omega)]
    have m2 : zmaxZ (Rz_place (Sz_readers (Tz_state v) a)) (Lz_first (Sz_log (Tz_state v))) = if g = 0 then Rz_place (Sz_readers (Tz_state v) a) else Lz_first (Sz_log (Tz_state v)) := by
      show (if Rz_place (Sz_readers (Tz_state v) a) < Lz_first (Sz_log (Tz_state v)) then Lz_first (Sz_log (Tz_state v)) else Rz_place (Sz_readers (Tz_state v) a)) = _
      rcases hg with z | z
      · rw [if_pos z.1]
        split <;> omega
      · rw [if_pos (show Rz_place (Sz_readers (Tz_state v) a) < Lz_first (Sz_log (Tz_state v)) by omega), if_neg (show ¬ g = 0 by omega)]
    unfold ZJ_LAW_kept_498 ZJ_LAW_kept_519
    refine q_LAW_readerOf hS ?_
    rw [e7, m1]
    refine ⟨fun c => ?_, fun c => ?_⟩
    · rw [if_pos c]
      refine ck rfl (q_LAW_readerOf hS ?_)
      rw [e5, m2, if_pos c]
      exact ⟨fun _ => j542 hf g _ _ hhf hg2 rfl (by have := hg2 c; omega) kk2, fun d => absurd c d⟩
    · rw [if_neg c]
      refine ck (by rw [wl_ok (by omega)]) (q_LAW_readerOf hS ?_)
      rw [e5, m2, if_neg c]
      exact ⟨fun d => absurd d c, fun _ => j542 hf g _ _ hhf hg2 rfl (by omega) kk2⟩
  have j479 : ∀ (hf g u0 : Int) {w11 w12 w13 : Int}, (hf = 0 ∨ hf = 1 ∧ Rz_held (Sz_readers (Tz_state v) a) = 1) → (g = 0 ∧ Lz_first (Sz_log (Tz_state v)) ≤ Rz_place (Sz_readers (Tz_state v) a) ∨ g = 1 ∧ Rz_place (Sz_readers (Tz_state v) a) < Lz_first (Sz_log (Tz_state v))) → K (Lz_first (Sz_log (Tz_state v))) (Lz_end (Sz_log (Tz_state v))) y9 1 w11 w12 w13 u0 ((a : Int) + 1) → ZJ_LAW_kept_479 v (Lz_first (Sz_log (Tz_state v))) (Lz_end (Sz_log (Tz_state v))) y9 w11 w12 w13 a (Rz_place (Sz_readers (Tz_state v) a)) hf g u0 (fun a0 a1 a2 a3 a4 a5 a6 a7 a8 => K a0 a1 a2 a3 a4 a5 a6 a7 a8) Q := by
    intro hf g u0 w11 w12 w13 hhf hg kk2
    unfold ZJ_LAW_kept_479
    refine ⟨fun c => absurd (lgp.mp c) (by omega), fun _ => ⟨fun _ => j498 hf g hhf hg kk2, fun c => ⟨fun d => ?_, fun _ => j498 hf g hhf hg kk2⟩⟩⟩
    exfalso
    have hh : Rz_held (Sz_readers (Tz_state v) a) = 1 := by
      rcases hhf with q | q
      · exact absurd q c
      · exact q.2
    have := (gr.2.2.2.1 hh).2
    rcases hg with z | z
    · exact d z.1
    · omega
  have j456 : ∀ (hf g w11 w12 : Int), (hf = 0 ∧ ¬ Rz_held (Sz_readers (Tz_state v) a) = 1 ∨ hf = 1 ∧ Rz_held (Sz_readers (Tz_state v) a) = 1) → (g = 0 ∧ Lz_first (Sz_log (Tz_state v)) ≤ Rz_place (Sz_readers (Tz_state v) a) ∨ g = 1 ∧ Rz_place (Sz_readers (Tz_state v) a) < Lz_first (Sz_log (Tz_state v))) → w11 = sumN (cz (Tz_state v)) (a + 1) → w12 = sumN (hz (Tz_state v) (Lz_end (Sz_log (Tz_state v)))) (a + 1) → ∀ ge : Int, ge = (if Rz_place (Sz_readers (Tz_state v) a) < Lz_first (Sz_log (Tz_state v)) then 1 else 0) → ZJ_LAW_kept_456 v (Lz_first (Sz_log (Tz_state v))) (Lz_end (Sz_log (Tz_state v))) y9 w11 w12 (lsF (Tz_state v) a) a (Rz_place (Sz_readers (Tz_state v) a)) hf g ge (sumN (gz (Tz_state v)) a) (fun a0 a1 a2 a3 a4 a5 a6 a7 a8 => K a0 a1 a2 a3 a4 a5 a6 a7 a8) Q := by
    intro hf g w11 w12 hhf hg hw11 hw12 ge hge
    subst hw11 hw12
    have ge2 : 0 ≤ ge ∧ ge ≤ 1 := by
      rw [hge]
      split <;> decide
    have hhf2 : hf = 0 ∨ hf = 1 ∧ Rz_held (Sz_readers (Tz_state v) a) = 1 := by rcases hhf with z | z; exact Or.inl z.1; exact Or.inr z
    rw [hge] at ge2
    rw [s3, ← hge] at kk
    rw [← hge] at ge2
    unfold ZJ_LAW_kept_456 ZJ_LAW_kept_477
    refine ⟨fun c => ⟨by omega, ?_⟩, fun c => ⟨fun d => ⟨by omega, ?_⟩, fun d => ⟨by omega, ?_⟩⟩⟩
    · rw [s4, if_neg (fun z => by rcases hhf with y | y; exact y.2 z.1; omega)] at kk
      exact j479 hf g _ hhf2 hg kk
    · rw [s4, if_neg (fun z => by have := lgn.mp d; omega)] at kk
      exact j479 hf g _ hhf2 hg kk
    · have hh : Rz_held (Sz_readers (Tz_state v) a) = 1 := by rcases hhf with y | y; exact absurd y.1 c; exact y.2
      have dl : Rz_place (Sz_readers (Tz_state v) a) < lsF (Tz_state v) a := by
        rcases Int.lt_or_le (Rz_place (Sz_readers (Tz_state v) a)) (lsF (Tz_state v) a) with z | z
        · exact z
        · exact absurd (lgn.mpr z) d
      rw [s4, if_pos ⟨hh, dl⟩] at kk
      exact j479 hf g _ hhf2 hg kk
  have j424 : ∀ (hf g : Int), (hf = 0 ∧ ¬ Rz_held (Sz_readers (Tz_state v) a) = 1 ∨ hf = 1 ∧ Rz_held (Sz_readers (Tz_state v) a) = 1) → (g = 0 ∧ Lz_first (Sz_log (Tz_state v)) ≤ Rz_place (Sz_readers (Tz_state v) a) ∨ g = 1 ∧ Rz_place (Sz_readers (Tz_state v) a) < Lz_first (Sz_log (Tz_state v))) → ZJ_LAW_kept_424 v (Lz_first (Sz_log (Tz_state v))) (Lz_end (Sz_log (Tz_state v))) y9 (sumN (cz (Tz_state v)) a) (sumN (hz (Tz_state v) (Lz_end (Sz_log (Tz_state v)))) a) (sumN (gz (Tz_state v)) a) (lsF (Tz_state v) a) a (Rz_place (Sz_readers (Tz_state v) a)) hf g (fun a0 a1 a2 a3 a4 a5 a6 a7 a8 => K a0 a1 a2 a3 a4 a5 a6 a7 a8) Q := by
    intro hf g hhf hg
    have go : ∀ x : Int, x = (if Rz_held (Sz_readers (Tz_state v) a) = 1 then 1 else 0) → ZJ_LAW_kept_441 v (Lz_first (Sz_log (Tz_state v))) (Lz_end (Sz_log (Tz_state v))) y9 (sumN (cz (Tz_state v)) a + 1) (sumN (gz (Tz_state v)) a) (lsF (Tz_state v) a) a (Rz_place (Sz_readers (Tz_state v) a)) hf g x (sumN (hz (Tz_state v) (Lz_end (Sz_log (Tz_state v)))) a) (fun a0 a1 a2 a3 a4 a5 a6 a7 a8 => K a0 a1 a2 a3 a4 a5 a6 a7 a8) Q := by
      intro x hx
      have hx2 : 0 ≤ x ∧ x ≤ 1 := by
        rw [hx]
        split <;> decide
      have w12 : sumN (hz (Tz_state v) (Lz_end (Sz_log (Tz_state v)))) a + x = sumN (hz (Tz_state v) (Lz_end (Sz_log (Tz_state v)))) (a + 1) := by rw [s2, hx]
      unfold ZJ_LAW_kept_441
      refine ⟨fun c => ⟨by omega, j456 hf g _ _ hhf hg s1.symm w12 0 ?_⟩, fun c => ⟨by omega, j456 hf g _ _ hhf hg s1.symm w12 1 ?_⟩⟩
      · rw [if_neg (by rcases hg with z | z <;> omega)]
      · rw [if_pos (by rcases hg with z | z <;> omega)]
    unfold ZJ_LAW_kept_424
    refine ⟨fun c => ⟨by omega, go 0 ?_⟩, fun c => ⟨by omega, go 1 ?_⟩⟩
    · rw [if_neg (fun z => by rcases hhf with y | y; exact y.2 z; omega)]
    · rw [if_pos (by rcases hhf with y | y; exact absurd y.1 c; exact y.2)]
  have hh : ((if Rz_held (Sz_readers (Tz_state v) a) = 1 then 1 else 0 : Int) = 0 ∧ ¬ Rz_held (Sz_readers (Tz_state v) a) = 1 ∨ (if Rz_held (Sz_readers (Tz_state v) a) = 1 then 1 else 0 : Int) = 1 ∧ Rz_held (Sz_readers (Tz_state v) a) = 1) := by
    by_cases q : Rz_held (Sz_readers (Tz_state v) a) = 1
    · exact Or.inr ⟨if_pos q, q⟩
    · exact Or.inl ⟨if_neg q, q⟩
  unfold ZJ_LAW_kept_410
  refine ⟨fun c => j424 _ 0 hh (Or.inl ⟨rfl, lgn.mp c⟩), fun c => j424 _ 1 hh (Or.inr ⟨rfl, ?_⟩)⟩
  rcases Int.lt_or_le (Rz_place (Sz_readers (Tz_state v) a)) (Lz_first (Sz_log (Tz_state v))) with z | z
  · exact z
  · exact absurd (lgn.mpr z) c
theorem kp_363 (h : TOK v T) (k : Q 1) : ∀ (n a : Nat), a + n = 8 → ZL_LAW_kept_363 (n + 1) v (Lz_first (Sz_log (Tz_state v))) (Lz_end (Sz_log (Tz_state v))) (Lz_begun (Sz_log (Tz_state v)) - Lz_dropped (Sz_log (Tz_state v))) 1 (sumN (cz (Tz_state v)) a) (sumN (hz (Tz_state v) (Lz_end (Sz_log (Tz_state v)))) a) (sumN (gz (Tz_state v)) a) (lsF (Tz_state v) a) a Q := by
  have hS := h.1.1
  intro n
  induction n with
  | zero =>
    intro a ha
    have e : a = 8 := by omega
    subst e
    rw [ZL_LAW_kept_363]
    exact ⟨fun _ => kp_653 h k, fun c => absurd (by decide) c⟩
  | succ n ih =>
    intro a ha
    have g := hS.2.2.2 a (by omega)
    have e0 : ((a : Int)).toNat = a := by omega
    have nx := ih (a + 1) (by omega)
    have e1 : (((a + 1 : Nat)) : Int) = (a : Int) + 1 := by omega
    rw [e1] at nx
    rw [ZL_LAW_kept_363]
    refine ⟨fun c => absurd c (by omega), fun _ => ⟨fun c => absurd c (by decide), fun _ => q_LAW_readerOf hS ?_⟩⟩
    by_cases i : isR (Tz_state v) a
    · refine ⟨fun c => absurd (lg0.mp c) (rd0_ne hS i), fun _ => q_LAW_readerOf hS ?_⟩
      have r0 : rdW (Tz_state v) a 0 = Rz_place (Sz_readers (Tz_state v) a) := by
        have m := rd_in i (b := 0) ⟨by decide, by decide⟩
        rw [e0] at m
        exact m
      have r1 : rdW (Tz_state v) a 1 = Rz_held (Sz_readers (Tz_state v) a) := by
        have m := rd_in i (b := 1) ⟨by decide, by decide⟩
        rw [e0] at m
        exact m
      have m := kp_410 (Q := Q) (y9 := Lz_begun (Sz_log (Tz_state v)) - Lz_dropped (Sz_log (Tz_state v))) (K := fun a0 a1 a2 a3 a4 a5 a6 a7 a8 => ZL_LAW_kept_363 (n + 1) v a0 a1 a2 a3 a4 a5 a6 a7 a8 Q) h (by omega) i nx
      rw [r0, r1]
      refine ⟨fun c => ?_, fun c => ?_⟩
      · rw [if_neg (fun z => c (lg0.mpr z))] at m
        exact m
      · rw [if_pos (lg0.mp c)] at m
        exact m
    · refine ⟨fun _ => ⟨by omega, ?_⟩, fun c => absurd (lg0.mpr (rd_ix i)) c⟩
      have np : ¬ Rz_present (Sz_readers (Tz_state v) a) = 1 := fun q => i ⟨by omega, by rw [e0]; exact q⟩
      have s1 : sumN (cz (Tz_state v)) (a + 1) = sumN (cz (Tz_state v)) a := by
        show sumN (cz (Tz_state v)) a + (if Rz_present (Sz_readers (Tz_state v) a) = 1 then 1 else 0) = _
        rw [if_neg np]
        omega
      have s2 : sumN (hz (Tz_state v) (Lz_end (Sz_log (Tz_state v)))) (a + 1) = sumN (hz (Tz_state v) (Lz_end (Sz_log (Tz_state v)))) a := by
        show sumN (hz (Tz_state v) (Lz_end (Sz_log (Tz_state v)))) a + (if Rz_held (Sz_readers (Tz_state v) a) = 1 ∧ Rz_place (Sz_readers (Tz_state v) a) ≤ Lz_end (Sz_log (Tz_state v)) then 1 else 0) = _
        rw [if_neg (fun q => np (g.2.2.2.1 q.1).1)]
        omega
      have s3 : sumN (gz (Tz_state v)) (a + 1) = sumN (gz (Tz_state v)) a := by
        show sumN (gz (Tz_state v)) a + (if Rz_present (Sz_readers (Tz_state v) a) = 1 ∧ Rz_place (Sz_readers (Tz_state v) a) < Lz_first (Sz_log (Tz_state v)) then 1 else 0) = _
        rw [if_neg (fun q => np q.1)]
        omega
      have s4 : lsF (Tz_state v) (a + 1) = lsF (Tz_state v) a := if_neg (fun q => np (g.2.2.2.1 q.1).1)
      rw [s1, s2, s3, s4] at nx
      exact nx
theorem kp_282 (h : TOK v T) (k : Q 1) : ∀ (n : Nat) (i : Int), i + n = 8 → 0 ≤ i → ZL_LAW_kept_282 (n + 1) v (Lz_first (Sz_log (Tz_state v))) (Lz_end (Sz_log (Tz_state v))) (Lz_begun (Sz_log (Tz_state v)) - Lz_dropped (Sz_log (Tz_state v))) 1 i Q := by
  have hS := h.1.1
  have h1 := hS.1.1
  intro n
  induction n with
  | zero =>
    intro i hi h0
    rw [ZL_LAW_kept_282]
    exact ⟨fun _ => ⟨9, by decide, kp_363 h k 8 0 rfl⟩, fun c => absurd (by omega) c⟩
  | succ n ih =>
    intro i hi h0
    rw [ZL_LAW_kept_282]
    refine ⟨fun c => absurd c (by omega), fun _ => ⟨fun c => absurd c (by decide), fun _ => q_LAW_truth hS (q_LAW_base ?_)⟩⟩
    have e1 : trW (Tz_state v) i (wi (Lz_first (Sz_log (Tz_state v)))) 0 = toldX (Sz_log (Tz_state v)) i (Lz_first (Sz_log (Tz_state v))) := by
      rw [wi_ok (by omega)]
      exact (if_pos ⟨by omega, by omega⟩).trans (if_pos ⟨⟨h0, by omega⟩, ⟨by decide, by decide⟩⟩)
    have e2 : baW (Tz_state v) i = Lz_dropValues (Sz_log (Tz_state v)) i.toNat := if_pos ⟨h0, by omega⟩
    rw [e1, e2]
    refine ck told_first (q_LAW_truth hS (q_LAW_truth hS ?_))
    have e3 : ∀ d : Int, 0 ≤ d → d ≤ 1 → trW (Tz_state v) i (wi (Lz_end (Sz_log (Tz_state v)))) d = toldX (Sz_log (Tz_state v)) i (Lz_end (Sz_log (Tz_state v))) := by
      intro d d0 d1
      rw [wi_ok (by omega)]
      exact (if_pos ⟨by omega, by omega⟩).trans (if_pos ⟨⟨h0, by omega⟩, ⟨d0, d1⟩⟩)
    rw [e3 0 (by decide) (by decide), e3 1 (by decide) (by decide)]
    exact ck rfl ⟨by omega, ih (i + 1) (by omega) (by omega)⟩
/-- the rows of a segment -/
theorem kp_61 {j y7 : Int} {K : Int → Int → Int → Int → Int → Int → Int → Prop} (h : TOK v T) (k0 : 0 ≤ j) (k1 : j < Lz_begun (Sz_log (Tz_state v)) - Lz_dropped (Sz_log (Tz_state v))) (hy7 : 0 ≤ y7 ∧ y7 ≤ 8000)
    (kk : K (Lz_first (Sz_log (Tz_state v))) (Lz_end (Sz_log (Tz_state v))) (lnx (Sz_log (Tz_state v)) (Lz_dropped (Sz_log (Tz_state v)) + j)) (y7 + (Lz_lengthsBelow (Sz_log (Tz_state v)) (lnx (Sz_log (Tz_state v)) (Lz_dropped (Sz_log (Tz_state v)) + j)).toNat - Lz_lengthsBelow (Sz_log (Tz_state v)) (Lz_starts (Sz_log (Tz_state v)) (Lz_dropped (Sz_log (Tz_state v)) + j).toNat).toNat)) (Lz_begun (Sz_log (Tz_state v)) - Lz_dropped (Sz_log (Tz_state v))) 1 (j + 1)) :
    ∀ (n : Nat) (i : Int), i + n = lnx (Sz_log (Tz_state v)) (Lz_dropped (Sz_log (Tz_state v)) + j) → Lz_starts (Sz_log (Tz_state v)) (Lz_dropped (Sz_log (Tz_state v)) + j).toNat ≤ i → ZL_LAW_kept_61 (n + 1) v (Lz_first (Sz_log (Tz_state v))) (Lz_end (Sz_log (Tz_state v))) (Lz_starts (Sz_log (Tz_state v)) (Lz_dropped (Sz_log (Tz_state v)) + j).toNat) y7 (Lz_begun (Sz_log (Tz_state v)) - Lz_dropped (Sz_log (Tz_state v))) 1 j (lnx (Sz_log (Tz_state v)) (Lz_dropped (Sz_log (Tz_state v)) + j) - Lz_starts (Sz_log (Tz_state v)) (Lz_dropped (Sz_log (Tz_state v)) + j).toNat) (Lz_lengthsBelow (Sz_log (Tz_state v)) i.toNat - Lz_lengthsBelow (Sz_log (Tz_state v)) (Lz_starts (Sz_log (Tz_state v)) (Lz_dropped (Sz_log (Tz_state v)) + j).toNat).toNat) i K Q := by
  have hS := h.1.1
  have h1 := hS.1.1
  have n1 := hS.1.nx1 (j := Lz_dropped (Sz_log (Tz_state v)) + j) (by omega) (by omega)
  have n2 := hS.1.st_end (j := Lz_dropped (Sz_log (Tz_state v)) + j) (by omega) (by omega)
  have fs : Lz_first (Sz_log (Tz_state v)) ≤ Lz_starts (Sz_log (Tz_state v)) (Lz_dropped (Sz_log (Tz_state v)) + j).toNat := by
    have q := hS.1.2.2.2.1 (by omega)
    have s := hS.1.st (i := Lz_dropped (Sz_log (Tz_state v))) (j := Lz_dropped (Sz_log (Tz_state v)) + j) (by omega) (by omega) (by omega)
    omega
  have sg := h.1.2.1 (Lz_dropped (Sz_log (Tz_state v)) + j) (by omega) (by omega)
  have lb := hS.1.bel (i := Lz_starts (Sz_log (Tz_state v)) (Lz_dropped (Sz_log (Tz_state v)) + j).toNat) (j := lnx (Sz_log (Tz_state v)) (Lz_dropped (Sz_log (Tz_state v)) + j)) (by omega) (by omega) (by omega)
  have w5 : wl (Lz_starts (Sz_log (Tz_state v)) (Lz_dropped (Sz_log (Tz_state v)) + j).toNat + (lnx (Sz_log (Tz_state v)) (Lz_dropped (Sz_log (Tz_state v)) + j) - Lz_starts (Sz_log (Tz_state v)) (Lz_dropped (Sz_log (Tz_state v)) + j).toNat)) = lnx (Sz_log (Tz_state v)) (Lz_dropped (Sz_log (Tz_state v)) + j) := by
    rw [wl_ok (by omega)]
    omega
  intro n
  induction n with
  | zero =>
    intro i hi h0
    rw [ZL_LAW_kept_61]
    rw [w5]
    refine ⟨fun _ => ⟨fun c => absurd c (by decide), fun _ => ?_⟩, fun c => absurd (lgn.mpr (by omega)) c⟩
    have ei : i = lnx (Sz_log (Tz_state v)) (Lz_dropped (Sz_log (Tz_state v)) + j) := by omega
    refine q_seg0 hS k0 k1 (ck rfl ⟨fun c => absurd (lg_cmpZ_le.1.mp c) (by omega), fun _ => ?_⟩)
    refine q_seg2 hS k0 k1 (ck (by rw [ei]) ⟨fun c => absurd (lgp.mp c) (by rw [ei]; omega), fun _ => ?_⟩)
    have j184 : ∀ u0 u1 : Int, u1 = u0 → ZJ_LAW_kept_184 v (Lz_first (Sz_log (Tz_state v))) (Lz_end (Sz_log (Tz_state v))) (Lz_starts (Sz_log (Tz_state v)) (Lz_dropped (Sz_log (Tz_state v)) + j).toNat) y7 (Lz_begun (Sz_log (Tz_state v)) - Lz_dropped (Sz_log (Tz_state v))) j (lnx (Sz_log (Tz_state v)) (Lz_dropped (Sz_log (Tz_state v)) + j) - Lz_starts (Sz_log (Tz_state v)) (Lz_dropped (Sz_log (Tz_state v)) + j).toNat) (Lz_lengthsBelow (Sz_log (Tz_state v)) i.toNat - Lz_lengthsBelow (Sz_log (Tz_state v)) (Lz_starts (Sz_log (Tz_state v)) (Lz_dropped (Sz_log (Tz_state v)) + j).toNat).toNat) u0 u1 (fun a0 a1 a2 a3 a4 a5 a6 => K a0 a1 a2 a3 a4 a5 a6) Q := by
      intro u0 u1 hu
      unfold ZJ_LAW_kept_184
      rw [w5, wi_ok (by omega)]
      refine ck hu (q_seg5 hS k0 k1 ⟨by omega, q_row5 hS (by omega) (by omega) ?_⟩)
      have fin : ZJ_LAW_kept_227 v (Lz_first (Sz_log (Tz_state v))) (Lz_end (Sz_log (Tz_state v))) (Lz_starts (Sz_log (Tz_state v)) (Lz_dropped (Sz_log (Tz_state v)) + j).toNat) y7 (Lz_begun (Sz_log (Tz_state v)) - Lz_dropped (Sz_log (Tz_state v))) j (lnx (Sz_log (Tz_state v)) (Lz_dropped (Sz_log (Tz_state v)) + j) - Lz_starts (Sz_log (Tz_state v)) (Lz_dropped (Sz_log (Tz_state v)) + j).toNat) (Lz_lengthsBelow (Sz_log (Tz_state v)) i.toNat - Lz_lengthsBelow (Sz_log (Tz_state v)) (Lz_starts (Sz_log (Tz_state v)) (Lz_dropped (Sz_log (Tz_state v)) + j).toNat).toNat) 1 (fun a0 a1 a2 a3 a4 a5 a6 => K a0 a1 a2 a3 a4 a5 a6) Q := by
        unfold ZJ_LAW_kept_227
        rw [w5, ei, wl_ok (by omega)]
        exact ⟨by omega, kk⟩
      unfold ZJ_LAW_kept_218
      refine ⟨fun c => ?_, fun c => ?_⟩
      · exact ck (if_neg (fun z => absurd (lg_cmpZ_le.1.mp c) (by omega))) fin
      · refine ck (if_pos ?_) fin
        rcases Int.lt_or_le 0 (holders (Tz_state v) (lnx (Sz_log (Tz_state v)) (Lz_dropped (Sz_log (Tz_state v)) + j) - 1)) with z | z
        · exact z
        · exact absurd (lg_cmpZ_le.1.mpr z) c
    refine q_seg3 hS k0 k1 ⟨by omega, fun c => ?_, fun c => ?_⟩
    · exact j184 0 _ (if_neg (by omega))
    · exact j184 1 _ (if_pos (by omega))
  | succ n ih =>
    intro i hi h0
    have lb2 := hS.1.bel (i := Lz_starts (Sz_log (Tz_state v)) (Lz_dropped (Sz_log (Tz_state v)) + j).toNat) (j := i + 1) (by omega) (by omega) (by omega)
    rw [ZL_LAW_kept_61]
    rw [w5]
    refine ⟨fun c => absurd (lgn.mp c) (by omega), fun _ => q_row2 hS (by omega) (by omega) ⟨fun c => absurd c (by decide), fun _ => ?_⟩⟩
    refine q_row4 (j := Lz_dropped (Sz_log (Tz_state v)) + j) hS (by omega) (by omega) (by omega) (by omega) h0 (by omega) (ck rfl ⟨by omega, ?_⟩)
    have ew : wl (Lz_lengthsBelow (Sz_log (Tz_state v)) i.toNat - Lz_lengthsBelow (Sz_log (Tz_state v)) (Lz_starts (Sz_log (Tz_state v)) (Lz_dropped (Sz_log (Tz_state v)) + j).toNat).toNat + (Lz_lengthsBelow (Sz_log (Tz_state v)) (i + 1).toNat - Lz_lengthsBelow (Sz_log (Tz_state v)) i.toNat)) = Lz_lengthsBelow (Sz_log (Tz_state v)) (i + 1).toNat - Lz_lengthsBelow (Sz_log (Tz_state v)) (Lz_starts (Sz_log (Tz_state v)) (Lz_dropped (Sz_log (Tz_state v)) + j).toNat).toNat := by
      rw [wl_ok (by omega)]
      omega
    rw [ew]
    exact ih (i + 1) (by omega) (by omega)
/-- where segment j begins; the end behind the last -/
def sgA (x : LZ) (j : Int) : Int := if Lz_dropped x + j < Lz_begun x then Lz_starts x (Lz_dropped x + j).toNat else Lz_end x
theorem kp_32 (h : TOK v T) (k : Q 1) : ∀ (n : Nat) (j : Int), j + n = Lz_begun (Sz_log (Tz_state v)) - Lz_dropped (Sz_log (Tz_state v)) → 0 ≤ j → ZL_LAW_kept_32 (n + 1) v (Lz_first (Sz_log (Tz_state v))) (Lz_end (Sz_log (Tz_state v))) (sgA (Sz_log (Tz_state v)) j) (Lz_lengthsBelow (Sz_log (Tz_state v)) (sgA (Sz_log (Tz_state v)) j).toNat - Lz_lengthsBelow (Sz_log (Tz_state v)) (Lz_first (Sz_log (Tz_state v))).toNat) (Lz_begun (Sz_log (Tz_state v)) - Lz_dropped (Sz_log (Tz_state v))) 1 j Q := by
  have hS := h.1.1
  have h1 := hS.1.1
  have hl := hS.1.2.1.2.2
  have hlen := hS.1.len
  intro n
  induction n with
  | zero =>
    intro j hj h0
    have es : sgA (Sz_log (Tz_state v)) j = Lz_end (Sz_log (Tz_state v)) := if_neg (by omega)
    rw [ZL_LAW_kept_32]
    refine ⟨fun _ => ⟨fun c => absurd c (by decide), fun _ => ck es (q_LAW_about hS ?_)⟩, fun c => absurd (by omega) c⟩
    have e3 : abW (Tz_state v) 3 = Lz_length (Sz_log (Tz_state v)) := if_pos ⟨by decide, by decide⟩
    exact ck (by rw [e3, es]; exact hl) ⟨9, by decide, kp_282 h k 8 0 (by decide) (by decide)⟩
  | succ n ih =>
    intro j hj h0
    have es : sgA (Sz_log (Tz_state v)) j = Lz_starts (Sz_log (Tz_state v)) (Lz_dropped (Sz_log (Tz_state v)) + j).toNat := if_pos (by omega)
    have n1 := hS.1.nx1 (j := Lz_dropped (Sz_log (Tz_state v)) + j) (by omega) (by omega)
    have n2 := hS.1.st_end (j := Lz_dropped (Sz_log (Tz_state v)) + j) (by omega) (by omega)
    have fs : Lz_first (Sz_log (Tz_state v)) ≤ Lz_starts (Sz_log (Tz_state v)) (Lz_dropped (Sz_log (Tz_state v)) + j).toNat := by
      have q := hS.1.2.2.2.1 (by omega)
      have s := hS.1.st (i := Lz_dropped (Sz_log (Tz_state v))) (j := Lz_dropped (Sz_log (Tz_state v)) + j) (by omega) (by omega) (by omega)
      omega
    have lb := hS.1.bel (i := Lz_first (Sz_log (Tz_state v))) (j := Lz_starts (Sz_log (Tz_state v)) (Lz_dropped (Sz_log (Tz_state v)) + j).toNat) (by omega) fs (by omega)
    have en : sgA (Sz_log (Tz_state v)) (j + 1) = lnx (Sz_log (Tz_state v)) (Lz_dropped (Sz_log (Tz_state v)) + j) := by
      unfold sgA lnx
      rw [show Lz_dropped (Sz_log (Tz_state v)) + (j + 1) = Lz_dropped (Sz_log (Tz_state v)) + j + 1 by omega]
    rw [ZL_LAW_kept_32]
    refine ⟨fun c => absurd c (by omega), fun _ => ⟨fun c => absurd c (by decide), fun _ => q_seg1 hS h0 (by omega) ?_⟩⟩
    have nx := ih (j + 1) (by omega) (by omega)
    rw [en] at nx
    rw [es, wi_ok (by omega)]
    have m := kp_61 (Q := Q) (j := j) (y7 := Lz_lengthsBelow (Sz_log (Tz_state v)) (Lz_starts (Sz_log (Tz_state v)) (Lz_dropped (Sz_log (Tz_state v)) + j).toNat).toNat - Lz_lengthsBelow (Sz_log (Tz_state v)) (Lz_first (Sz_log (Tz_state v))).toNat) (K := fun a0 a1 a2 a3 a4 a5 a6 => ZL_LAW_kept_32 (n + 1) v a0 a1 a2 a3 a4 a5 a6 Q) h h0 (by omega) (by omega) (by
      rw [show Lz_lengthsBelow (Sz_log (Tz_state v)) (Lz_starts (Sz_log (Tz_state v)) (Lz_dropped (Sz_log (Tz_state v)) + j).toNat).toNat - Lz_lengthsBelow (Sz_log (Tz_state v)) (Lz_first (Sz_log (Tz_state v))).toNat + (Lz_lengthsBelow (Sz_log (Tz_state v)) (lnx (Sz_log (Tz_state v)) (Lz_dropped (Sz_log (Tz_state v)) + j)).toNat - Lz_lengthsBelow (Sz_log (Tz_state v)) (Lz_starts (Sz_log (Tz_state v)) (Lz_dropped (Sz_log (Tz_state v)) + j).toNat).toNat) = Lz_lengthsBelow (Sz_log (Tz_state v)) (lnx (Sz_log (Tz_state v)) (Lz_dropped (Sz_log (Tz_state v)) + j)).toNat - Lz_lengthsBelow (Sz_log (Tz_state v)) (Lz_first (Sz_log (Tz_state v))).toNat by omega]
      exact nx) (lnx (Sz_log (Tz_state v)) (Lz_dropped (Sz_log (Tz_state v)) + j) - Lz_starts (Sz_log (Tz_state v)) (Lz_dropped (Sz_log (Tz_state v)) + j).toNat).toNat (Lz_starts (Sz_log (Tz_state v)) (Lz_dropped (Sz_log (Tz_state v)) + j).toNat) (by omega) (Int.le_refl _)
    rw [Int.sub_self] at m
    exact ⟨_, by omega, m⟩
theorem q_LAW_kept (h : TOK v T) (k : Q 1) : Z_LAW_kept v Q := by
  have hS := h.1.1
  have h1 := hS.1.1
  unfold Z_LAW_kept
  refine q_LAW_about hS (q_LAW_about hS (q_LAW_about hS ?_))
  have e1 : abW (Tz_state v) 1 = Lz_first (Sz_log (Tz_state v)) := if_pos ⟨by decide, by decide⟩
  have e0 : abW (Tz_state v) 0 = Lz_end (Sz_log (Tz_state v)) := if_pos ⟨by decide, by decide⟩
  have e2 : abW (Tz_state v) 2 = Lz_begun (Sz_log (Tz_state v)) - Lz_dropped (Sz_log (Tz_state v)) := if_pos ⟨by decide, by decide⟩
  rw [e1, e0, e2, wi_ok (by omega)]
  have es : sgA (Sz_log (Tz_state v)) 0 = Lz_first (Sz_log (Tz_state v)) := by
    unfold sgA
    rw [show Lz_dropped (Sz_log (Tz_state v)) + 0 = Lz_dropped (Sz_log (Tz_state v)) by omega]
    rcases Int.lt_or_le 0 (Lz_begun (Sz_log (Tz_state v))) with q | q
    · have g := hS.1.2.2.2.1 q
      rw [if_pos g.1]
      exact g.2.2.1
    · have g := hS.1.2.2.1 (by omega)
      rw [if_neg (by omega)]
      omega
  have m := kp_32 h k (Lz_begun (Sz_log (Tz_state v)) - Lz_dropped (Sz_log (Tz_state v))).toNat 0 (by omega) (by decide)
  rw [es, Int.sub_self] at m
  exact ⟨_, by omega, m⟩
end KP

/-! ### the law's text is told, and loaded -/
def blks (x : Int) : Nat → Nat → List Int
  | _, 0 => []
  | k, m + 1 => blk (zshrZ x k) ++ blks x (k + 1) m
theorem zshr_nn {x : Int} {k : Nat} (h0 : 0 ≤ x) (h1 : x < 2147483648) : 0 ≤ zshrZ x k := by
  unfold zshrZ zshr
  have e : (Int32.ofInt x).toInt = x := Int32.toInt_ofInt_of_le (by omega) (by omega)
  show 0 ≤ (Int32.ofInt x >>> (Int32.ofInt k &&& 31)).toBitVec.toInt
  rw [Int32.toBitVec_shiftRight, BitVec.toInt_sshiftRight']
  exact Int.le_shiftRight_of_nonneg (by show 0 ≤ (Int32.ofInt x).toInt; omega)
section TO
variable {v : TZ} {x T : Int} {l : List Int}
theorem XEq.xl {a b : XZ} (e : XEq a b) (h : XL b l) : XL a l := ⟨e.1.trans h.1, fun k hk => (e.2 k (by have := h.1; omega)).trans (h.2 k hk)⟩
theorem XEq.ot {a b : XZ} (e : XEq a b) (h : XOT b) : XOT a := by
  have e1 := e.1
  refine ⟨by rw [e1]; exact h.1, fun k hk => ?_⟩
  rw [e.2 k (by omega)]
  exact h.2 k (by omega)
theorem q_toldEnd {Q : Int → TZ → Prop} (hx : 0 ≤ x) (h : XL (Tz_text v) l) (ho : XOT (Tz_text v)) (hl : l.length + 8 ≤ 120) (he : ∀ x', XL x' (l ++ tlL x) → errA (csX x') (Xz_length x') = -1) (k : ∀ x', XL x' (l ++ tlL x) → XOT x' → Q 1 (Tz_set_text v x')) : ZJ_LAW_told_228 x x 1 v Q := by
  have b10 := tmB hx (n := 10) (by decide)
  have b2 := tmB (tdB hx (n := 2) (by decide)) (n := 10) (by decide)
  have b8 := tmB hx (n := 8) (by decide)
  unfold ZJ_LAW_told_228
  refine ⟨fun c => absurd c (by decide), fun _ => ⟨by omega, q_LAW_says h ho (by omega) (by decide) (by decide) (by decide) (by omega) (fun x1 g1 o1 => ⟨fun c => absurd c (by decide), fun _ => ⟨by omega, by omega, ?_⟩⟩)⟩⟩
  refine q_LAW_says (v := Tz_set_text v x1) g1 o1 (by simp; omega) (by omega) (by decide) (by decide) (by omega) (fun x2 g2 o2 => ⟨fun c => absurd c (by decide), fun _ => ?_⟩)
  have g3 : XL x2 (l ++ tlL x) := by
    have e : l ++ [115, 51, 48, 48 + Int.tmod x 10] ++ [48 + Int.tmod (Int.tdiv x 2) 10, 48, 108, 48 + Int.tmod x 8] = l ++ tlL x := by
      rw [List.append_assoc]
      rfl
    rw [← e]
    exact g2
  refine q_T_errorPosition (v := Tz_set_text v x2) o2 (fun x3 e3 => ?_)
  have e3 : XEq x3 x2 := e3
  have h1 : errA (csX x2) (Xz_length x2) = -1 := he x2 g3
  refine ⟨fun c => absurd h1 c, fun _ => k x3 (e3.xl g3) (e3.ot o2)⟩
theorem q_toldLoop {Q : Int → TZ → Prop} (hx : 0 ≤ x) (hx2 : x < 2147483648) : ∀ (m k : Nat) (v : TZ) (l : List Int), (k : Int) + m = 1 + Int.tmod x 4 → XL (Tz_text v) l → XOT (Tz_text v) → l.length + 20 * m + 8 ≤ 120 → (∀ x', XL x' (l ++ (blks x k m ++ tlL x)) → errA (csX x') (Xz_length x') = -1) → (∀ x', XL x' (l ++ (blks x k m ++ tlL x)) → XOT x' → Q 1 (Tz_set_text v x')) → ZL_LAW_told_26 (m + 1) x x 1 k v Q := by
  have b4 := tmB hx (n := 4) (by decide)
  intro m
  induction m with
  | zero =>
    intro k v l hk h ho hl he kk
    rw [ZL_LAW_told_26]
    exact ⟨by omega, fun _ => q_toldEnd hx h ho (by omega) he kk, fun c => absurd (by omega) c⟩
  | succ m ih =>
    intro k v l hk h ho hl he kk
    have hy := zshr_nn (x := x) (k := k) hx hx2
    rw [ZL_LAW_told_26]
    show zin _ ∧ _
    generalize hyy : zshrZ x k = y at hy ⊢
    have c8 := tmB hy (n := 8) (by decide)
    have c10 := tmB hy (n := 10) (by decide)
    have c3 := tmB (tdB hy (n := 3) (by decide)) (n := 10) (by decide)
    have c4 := tmB hy (n := 4) (by decide)
    have c9 := tmB hy (n := 9) (by decide)
    have d3 := tmB hy (n := 3) (by decide)
    have c5 := tmB hy (n := 5) (by decide)
    have c2 := tmB (tdB hy (n := 2) (by decide)) (n := 8) (by decide)
    have eb : blks x k (m + 1) = blk y ++ blks x (k + 1) m := by
      show blk (zshrZ x k) ++ blks x (k + 1) m = _
      rw [hyy]
    rw [eb] at he kk
    refine ⟨by omega, fun c => absurd c (by omega), fun _ => ⟨fun c => absurd c (by decide), fun _ => ⟨by omega, by omega, by omega, ?_⟩⟩⟩
    refine q_LAW_says h ho (by omega) (by decide) (by omega) (by omega) (by omega) (fun x1 g1 o1 => ⟨fun c => absurd c (by decide), fun _ => ⟨by omega, by omega, ?_⟩⟩)
    refine q_LAW_says (v := Tz_set_text v x1) g1 o1 (by simp; omega) (by omega) (by omega) (by decide) (by omega) (fun x2 g2 o2 => ⟨fun c => absurd c (by decide), fun _ => ?_⟩)
    have rest : ∀ s : Int, s = (if Int.tmod y 2 = 0 then 43 else 45) → ZJ_LAW_told_133 x x k y s (48 + Int.tmod y 3) (Tz_set_text v x2) (fun a0 a1 a2 w0 => ZL_LAW_told_26 (m + 1) x a0 a1 a2 w0 Q) Q := by
      intro s hs
      have hs2 : 0 ≤ s ∧ s ≤ 255 := by
        rw [hs]
        split <;> decide
      unfold ZJ_LAW_told_133
      refine ⟨by omega, q_LAW_says (v := Tz_set_text v x2) g2 o2 (by simp; omega) (by omega) hs2 (by decide) (by omega) (fun x3 g3 o3 => ⟨fun c => absurd c (by decide), fun _ => ⟨by omega, by omega, ?_⟩⟩)⟩
      refine q_LAW_says (v := Tz_set_text v x3) g3 o3 (by simp; omega) (by omega) (by omega) (by decide) (by decide) (fun x4 g4 o4 => ⟨fun c => absurd c (by decide), fun _ => ?_⟩)
      have fin : ∀ t : Int, t = (if Int.tmod y 3 = 0 then 45 else 43) → ∀ x5, XL x5 (l ++ [119, 48 + Int.tmod y 8, 48 + Int.tmod y 10, 48 + Int.tmod (Int.tdiv y 3) 10] ++ [48 + Int.tmod y 4, 49 + Int.tmod y 9, 106, 48 + Int.tmod y 8] ++ [48 + Int.tmod y 3, s, 114, 48 + Int.tmod y 8] ++ [48 + Int.tmod y 5, 49 + Int.tmod y 9, 116, 48] ++ [49 + Int.tmod y 9, 104, 48 + Int.tmod (Int.tdiv y 2) 8, t]) → XOT x5 → ZL_LAW_told_26 (m + 1) x x 1 ((k : Int) + 1) (Tz_set_text v x5) Q := by
        intro t ht x5 g5 o5
        have el : l ++ [119, 48 + Int.tmod y 8, 48 + Int.tmod y 10, 48 + Int.tmod (Int.tdiv y 3) 10] ++ [48 + Int.tmod y 4, 49 + Int.tmod y 9, 106, 48 + Int.tmod y 8] ++ [48 + Int.tmod y 3, s, 114, 48 + Int.tmod y 8] ++ [48 + Int.tmod y 5, 49 + Int.tmod y 9, 116, 48] ++ [49 + Int.tmod y 9, 104, 48 + Int.tmod (Int.tdiv y 2) 8, t] = l ++ blk y := by
          rw [hs, ht, List.append_assoc, List.append_assoc, List.append_assoc, List.append_assoc]
          rfl
        rw [el] at g5
        have ln : (l ++ blk y).length = l.length + 20 := by rw [List.length_append]; rfl
        have e2 : l ++ blk y ++ (blks x (k + 1) m ++ tlL x) = l ++ (blk y ++ blks x (k + 1) m ++ tlL x) := by
          rw [List.append_assoc, List.append_assoc]
        have g := ih (k + 1) (Tz_set_text v x5) (l ++ blk y) (by omega) g5 o5 (by omega) (by rw [e2]; exact he) (by rw [e2]; exact kk)
        have e3 : (((k + 1 : Nat) : Int)) = (k : Int) + 1 := by omega
        rw [e3] at g
        exact g
      refine ⟨fun c => ⟨by omega, ?_⟩, fun c => ⟨by omega, ?_⟩⟩
      · exact q_LAW_says (v := Tz_set_text v x4) g4 o4 (by simp; omega) (by omega) (by decide) (by omega) (by decide) (fun x5 g5 o5 => ⟨fun z => absurd z (by decide), fun _ => ⟨by omega, fin 43 (by rw [if_neg c]) x5 g5 o5⟩⟩)
      · exact q_LAW_says (v := Tz_set_text v x4) g4 o4 (by simp; omega) (by omega) (by decide) (by omega) (by decide) (fun x5 g5 o5 => ⟨fun z => absurd z (by decide), fun _ => ⟨by omega, fin 45 (by rw [if_pos c]) x5 g5 o5⟩⟩)
    exact ⟨fun c => ⟨by omega, rest 45 (by rw [if_neg c])⟩, fun c => ⟨by omega, rest 43 (by rw [if_pos c])⟩⟩
/-- the whole text that the law tells -/
def txL (x : Int) : List Int := 71 :: (blks x 0 (1 + Int.tmod x 4).toNat ++ tlL x)
theorem atL_app {cs : Int → Int} {p : Int} {a b : List Int} (h : atL cs p (a ++ b)) : atL cs p a ∧ atL cs (p + a.length) b := by
  refine ⟨fun k hk => ?_, fun k hk => ?_⟩
  · rw [h k (by rw [List.length_append]; omega)]
    simp [List.getD, List.getElem?_append_left hk]
  · have g := h (a.length + k) (by rw [List.length_append]; omega)
    rw [show p + ((a.length + k : Nat) : Int) = p + a.length + k by omega] at g
    rw [g]
    simp [List.getD, List.getElem?_append_right]
theorem blks_len : ∀ (m k : Nat), (blks x k m).length = 20 * m
  | 0, _ => rfl
  | m + 1, k => by
    show (blk (zshrZ x k) ++ blks x (k + 1) m).length = 20 * (m + 1)
    rw [List.length_append, blks_len m (k + 1)]
    show 20 + 20 * m = 20 * (m + 1)
    omega
theorem errF_blks {cs : Int → Int} {L : Int} (hx : 0 ≤ x) (hx2 : x < 2147483648) : ∀ (m k : Nat) (p : Int) (n : Nat), atL cs p (blks x k m ++ tlL x) → p + 20 * m + 8 = L → errF cs L (n + 5 * m + 3) p = -1 := by
  intro m
  induction m with
  | zero => intro k p n h hL; exact errF_tail hx h (by omega)
  | succ m ih =>
    intro k p n h hL
    have e : blks x k (m + 1) ++ tlL x = blk (zshrZ x k) ++ (blks x (k + 1) m ++ tlL x) := by
      show blk (zshrZ x k) ++ blks x (k + 1) m ++ tlL x = _
      rw [List.append_assoc]
    rw [e] at h
    obtain ⟨h1, h2⟩ := atL_app h
    rw [show n + 5 * (m + 1) + 3 = (n + 5 * m + 3) + 5 by omega, errF_blk (zshr_nn hx hx2) h1 (by omega)]
    exact ih (k + 1) (p + 20) n h2 (by omega)
theorem errA_tx {x1 : XZ} (hx : 0 ≤ x) (hx2 : x < 2147483648) (h : XL x1 (txL x)) : errA (csX x1) (Xz_length x1) = -1 := by
  have b4 := tmB hx (n := 4) (by decide)
  obtain ⟨m, hm⟩ : ∃ m : Nat, m = (1 + Int.tmod x 4).toNat := ⟨_, rfl⟩
  have ht : txL x = 71 :: (blks x 0 m ++ tlL x) := by unfold txL; rw [← hm]
  rw [ht] at h
  have ln : (71 :: (blks x 0 m ++ tlL x)).length = 20 * m + 9 := by
    rw [List.length_cons, List.length_append, blks_len]
    rfl
  have h1 := h.1
  rw [ln] at h1
  have hc : ∀ k : Nat, k < 20 * m + 9 → csX x1 k = (71 :: (blks x 0 m ++ tlL x)).getD k 0 := by
    intro k hk
    have e : csX x1 k = Xz_signs x1 k := if_pos ⟨by omega, by omega⟩
    rw [e]
    exact h.2 k (by rw [ln]; exact hk)
  unfold errA
  rw [if_pos (show csX x1 0 = 71 from hc 0 (by omega)), show (60 : Nat) = (57 - 5 * m) + 5 * m + 3 by omega]
  refine errF_blks hx hx2 m 0 1 _ (fun k hk => ?_) (by omega)
  have hk : k < 20 * m + 8 := by
    rw [List.length_append, blks_len] at hk
    exact hk
  have g := hc (k + 1) (by omega)
  rw [show (((k + 1 : Nat)) : Int) = 1 + (k : Int) by omega] at g
  rw [g]
  rfl
theorem q_LAW_told {Q : Int → TZ → Prop} (hx : 0 ≤ x) (hx2 : x < 2147483648) (ho : XOT (Tz_text v)) (k : ∀ x', XL x' (txL x) → XOT x' → Q 1 (Tz_set_text v x')) : Z_LAW_told x v Q := by
  have b4 := tmB hx (n := 4) (by decide)
  unfold Z_LAW_told
  refine q_T_clearText ho (fun r x1 r0 g1 o1 => ⟨fun c => absurd c (by omega), fun _ => ?_⟩)
  refine q_LAW_append (v := Tz_set_text v x1) g1 o1 (by decide) (by decide) (by decide) (fun x2 g2 o2 => ⟨fun c => absurd (lg_cmpZ_le.1.mp c) (by decide), fun _ => ?_⟩)
  refine ⟨(1 + Int.tmod x 4).toNat + 1, by omega, ?_⟩
  exact q_toldLoop hx hx2 (1 + Int.tmod x 4).toNat 0 (Tz_set_text v x2) ([] ++ [71]) (by omega) g2 o2 (by show 1 + 20 * _ + 8 ≤ 120; omega) (fun x3 g3 => errA_tx hx hx2 g3) (fun x3 g3 o3 => k x3 g3 o3)
end TO

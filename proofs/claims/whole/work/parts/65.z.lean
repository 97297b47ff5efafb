def ZL_M_fresh_21 : Nat → Int → (Nat → Int) → ((Nat → Int) → Prop) → Prop
  | 0, _, _, _ => False
  | n + 1, y1, v0, Q => ((8 ≤ y1 → ((0 : Int) ≤ 610 ∧ (610 : Int) < 621) ∧ ((∀ v8_, v8_ = (updz v0 (Int.toNat 610) 4) → (((0 : Int) ≤ 611 ∧ (611 : Int) < 621) ∧ ((∀ v16_, v16_ = (updz v8_ (Int.toNat 611) 100) → (((0 : Int) ≤ 613 ∧ (613 : Int) < 621) ∧ ((∀ v24_, v24_ = (updz v16_ (Int.toNat 613) 400) → ((Q v24_))))))))))) ∧ (¬ 8 ≤ y1 → zin (402 + y1) ∧ ((0 : Int) ≤ (402 + y1) ∧ ((402 + y1) : Int) < 621) ∧ ((∀ v32_, v32_ = (updz v0 (Int.toNat (402 + y1)) (-1)) → (zin (y1 + 1) ∧ (ZL_M_fresh_21 n (y1 + 1) v32_ Q))))))
set_option maxRecDepth 100000 in
theorem zL_M_fresh_21 (n : Nat) : ∀ {y1 : Int32} {y1z : Int} {v0 : Nat → Int32} {v0z : (Nat → Int)}  {Q : (Nat → Int32) → Prop} {Qz : ((Nat → Int) → Prop)} (e_y1 : y1.toInt = y1z) (e_v0 : (aA v0) = v0z) (h_Q : ∀ (a0 : Nat → Int32), Qz (aA a0) → Q a0) (h : ZL_M_fresh_21 n y1z v0z Qz), PL_M_fresh_21 n y1 v0 Q := by
  induction n with
  | zero =>
    intro y1 y1z v0 v0z Q Qz e_y1 e_v0 h_Q h
    exact (h : False).elim
  | succ n ih =>
    intro y1 y1z v0 v0z Q Qz e_y1 e_v0 h_Q h
    subst e_y1
    subst e_v0
    rw [ZL_M_fresh_21] at h
    rw [PL_M_fresh_21]
    refine ⟨fun c7q => ?_, fun c7q => ?_⟩
    · have h := h.1 ((zt_le rfl rfl).mp c7q)
      obtain ⟨i1q, h⟩ := h
      refine ⟨zt_in (show (610 : Int32).toInt = 610 from by decide) i1q, ?_⟩
      intro v8_ ev8_
      have h := h (aA v8_) (by rw [ev8_]; exact (show (aA (upd v0 (Int32.toNatClampNeg 610) 4)) = (updz (aA v0) (Int.toNat 610) 4) from (zt_upd rfl rfl rfl)))
      obtain ⟨i2q, h⟩ := h
      refine ⟨zt_in (show (611 : Int32).toInt = 611 from by decide) i2q, ?_⟩
      intro v16_ ev16_
      have h := h (aA v16_) (by rw [ev16_]; exact (show (aA (upd v8_ (Int32.toNatClampNeg 611) 100)) = (updz (aA v8_) (Int.toNat 611) 100) from (zt_upd rfl rfl rfl)))
      obtain ⟨i3q, h⟩ := h
      refine ⟨zt_in (show (613 : Int32).toInt = 613 from by decide) i3q, ?_⟩
      intro v24_ ev24_
      have h := h (aA v24_) (by rw [ev24_]; exact (show (aA (upd v16_ (Int32.toNatClampNeg 613) 400)) = (updz (aA v16_) (Int.toNat 613) 400) from (zt_upd rfl rfl rfl)))
      exact h_Q _ h
    · have h := h.2 (fun k => c7q ((zt_le rfl rfl).mpr k))
      obtain ⟨o4q, h⟩ := h
      obtain ⟨i5q, h⟩ := h
      refine ⟨zt_in (show (((402 + y1) : Int32)).toInt = ((402 + y1.toInt) : Int) from (zt_add rfl rfl o4q)) i5q, ?_⟩
      intro v32_ ev32_
      have h := h (aA v32_) (by rw [ev32_]; exact (show (aA (upd v0 (Int32.toNatClampNeg (402 + y1)) (-1))) = (updz (aA v0) (Int.toNat (402 + y1.toInt)) (-1)) from (zt_upd rfl (show (Int32.toNatClampNeg (402 + y1)) = (Int.toNat (402 + y1.toInt)) from (congrArg Int.toNat (show (((402 + y1) : Int32)).toInt = ((402 + y1.toInt) : Int) from (zt_add rfl rfl o4q)))) rfl)))
      obtain ⟨o6q, h⟩ := h
      refine ih (show (((y1 + 1) : Int32)).toInt = ((y1.toInt + 1) : Int) from (zt_add rfl rfl o6q)) rfl h_Q h
def ZL_M_fresh_2 : Nat → Int → (Nat → Int) → ((Nat → Int) → Prop) → Prop
  | 0, _, _, _ => False
  | n + 1, y1, v0, Q => ((621 ≤ y1 → (∃ n35_, (ZL_M_fresh_21 n35_ 0 v0 Q))) ∧ (¬ 621 ≤ y1 → ((0 : Int) ≤ y1 ∧ (y1 : Int) < 621) ∧ ((∀ v41_, v41_ = (updz v0 (Int.toNat y1) 0) → (zin (y1 + 1) ∧ (ZL_M_fresh_2 n (y1 + 1) v41_ Q))))))
set_option maxRecDepth 100000 in
theorem zL_M_fresh_2 (n : Nat) : ∀ {y1 : Int32} {y1z : Int} {v0 : Nat → Int32} {v0z : (Nat → Int)}  {Q : (Nat → Int32) → Prop} {Qz : ((Nat → Int) → Prop)} (e_y1 : y1.toInt = y1z) (e_v0 : (aA v0) = v0z) (h_Q : ∀ (a0 : Nat → Int32), Qz (aA a0) → Q a0) (h : ZL_M_fresh_2 n y1z v0z Qz), PL_M_fresh_2 n y1 v0 Q := by
  induction n with
  | zero =>
    intro y1 y1z v0 v0z Q Qz e_y1 e_v0 h_Q h
    exact (h : False).elim
  | succ n ih =>
    intro y1 y1z v0 v0z Q Qz e_y1 e_v0 h_Q h
    subst e_y1
    subst e_v0
    rw [ZL_M_fresh_2] at h
    rw [PL_M_fresh_2]
    refine ⟨fun c3q => ?_, fun c3q => ?_⟩
    · have h := h.1 ((zt_le rfl rfl).mp c3q)
      obtain ⟨n35_, h⟩ := h
      refine ⟨n35_, ?_⟩
      refine zL_M_fresh_21 n35_ rfl rfl h_Q h
    · have h := h.2 (fun k => c3q ((zt_le rfl rfl).mpr k))
      obtain ⟨i1q, h⟩ := h
      refine ⟨zt_in rfl i1q, ?_⟩
      intro v41_ ev41_
      have h := h (aA v41_) (by rw [ev41_]; exact (show (aA (upd v0 (Int32.toNatClampNeg y1) 0)) = (updz (aA v0) (Int.toNat y1.toInt) 0) from (zt_upd rfl rfl rfl)))
      obtain ⟨o2q, h⟩ := h
      refine ih (show (((y1 + 1) : Int32)).toInt = ((y1.toInt + 1) : Int) from (zt_add rfl rfl o2q)) rfl h_Q h
def Z_M_fresh (v0 : (Nat → Int)) (Q : ((Nat → Int) → Prop)) : Prop := (∃ n44_, (ZL_M_fresh_2 n44_ 0 v0 Q))
set_option maxRecDepth 100000 in
theorem z_M_fresh {v0 : Nat → Int32} {v0z : (Nat → Int)}  {Q : (Nat → Int32) → Prop} {Qz : ((Nat → Int) → Prop)} (e_v0 : (aA v0) = v0z) (h_Q : ∀ (a0 : Nat → Int32), Qz (aA a0) → Q a0) (h : Z_M_fresh v0z Qz) : P_M_fresh v0 Q := by
  subst e_v0
  unfold Z_M_fresh at h
  unfold P_M_fresh
  obtain ⟨n44_, h⟩ := h
  refine ⟨n44_, ?_⟩
  refine zL_M_fresh_2 n44_ rfl rfl h_Q h

def Z_M_thrown (v0 : MZ) (Q : (Int → Prop)) : Prop := (Q (Mz_refusal v0))
set_option maxRecDepth 100000 in
theorem z_M_thrown {v0 : MT} {v0z : MZ}  {Q : Int32 → Prop} {Qz : (Int → Prop)} (e_v0 : (aM v0) = v0z) (h_Q : ∀ (a0 : Int32), Qz a0.toInt → Q a0) (h : Z_M_thrown v0z Qz) : P_M_thrown v0 Q := by
  subst e_v0
  unfold Z_M_thrown at h
  unfold P_M_thrown
  exact h_Q _ h

def Z_M_refused (x1 : Int) (v0 : MZ) (Q : (Int → MZ → Prop)) : Prop := (∀ v6_, v6_ = (Mz_set_refusal v0 x1) → (((x1 = 0 → (Q 0 v6_)) ∧ (¬ x1 = 0 → (Q 1 v6_)))))
set_option maxRecDepth 100000 in
theorem z_M_refused {x1 : Int32} {x1z : Int} {v0 : MT} {v0z : MZ}  {Q : Int32 → MT → Prop} {Qz : (Int → MZ → Prop)} (e_x1 : x1.toInt = x1z) (e_v0 : (aM v0) = v0z) (h_Q : ∀ (a0 : Int32) (a1 : MT), Qz a0.toInt (aM a1) → Q a0 a1) (h : Z_M_refused x1z v0z Qz) : P_M_refused x1 v0 Q := by
  subst e_x1
  subst e_v0
  unfold Z_M_refused at h
  unfold P_M_refused
  intro v6_ ev6_
  have h := h (aM v6_) (by rw [ev6_]; exact rfl)
  refine ⟨fun c1q => ?_, fun c1q => ?_⟩
  · have h := h.1 ((zt_eq rfl rfl).mp c1q)
    exact h_Q _ _ h
  · have h := h.2 (fun k => c1q ((zt_eq rfl rfl).mpr k))
    exact h_Q _ _ h

def Z_M_in (x1 : Int) (x2 : Int) (x3 : Int) (Q : (Int → Prop)) : Prop := (((lg_cmpZ x1 x2) < 0 → (Q 0)) ∧ (¬ (lg_cmpZ x1 x2) < 0 → ((0 < (lg_cmpZ x1 x3) → (Q 0)) ∧ (¬ 0 < (lg_cmpZ x1 x3) → (Q 1)))))
set_option maxRecDepth 100000 in
theorem z_M_in {x1 : Int64} {x1z : Int} {x2 : Int64} {x2z : Int} {x3 : Int64} {x3z : Int}  {Q : Int32 → Prop} {Qz : (Int → Prop)} (e_x1 : x1.toInt = x1z) (e_x2 : x2.toInt = x2z) (e_x3 : x3.toInt = x3z) (h_Q : ∀ (a0 : Int32), Qz a0.toInt → Q a0) (h : Z_M_in x1z x2z x3z Qz) : P_M_in x1 x2 x3 Q := by
  subst e_x1
  subst e_x2
  subst e_x3
  unfold Z_M_in at h
  unfold P_M_in
  refine ⟨fun c2q => ?_, fun c2q => ?_⟩
  · have h := h.1 ((zt_lt (show (((lg_cmp x1 x2) : Int32)).toInt = ((lg_cmpZ x1.toInt x2.toInt) : Int) from (zt_lg_cmp rfl rfl)) rfl).mp c2q)
    exact h_Q _ h
  · have h := h.2 (fun k => c2q ((zt_lt (show (((lg_cmp x1 x2) : Int32)).toInt = ((lg_cmpZ x1.toInt x2.toInt) : Int) from (zt_lg_cmp rfl rfl)) rfl).mpr k))
    refine ⟨fun c1q => ?_, fun c1q => ?_⟩
    · have h := h.1 ((zt_lt rfl (show (((lg_cmp x1 x3) : Int32)).toInt = ((lg_cmpZ x1.toInt x3.toInt) : Int) from (zt_lg_cmp rfl rfl))).mp c1q)
      exact h_Q _ h
    · have h := h.2 (fun k => c1q ((zt_lt rfl (show (((lg_cmp x1 x3) : Int32)).toInt = ((lg_cmpZ x1.toInt x3.toInt) : Int) from (zt_lg_cmp rfl rfl))).mpr k))
      exact h_Q _ h

def ZL_M_tens_4 : Nat → Int → Int → Int → Int → (Int → Prop) → Prop
  | 0, _, _, _, _, _ => False
  | n + 1, x1, y0, y1, y3, Q => ((y0 ≤ y3 → (Q y1)) ∧ (¬ y0 ≤ y3 → zin (y3 + 1) ∧ (ZL_M_tens_4 n x1 y0 (wl (y1 * 10)) (y3 + 1) Q)))
set_option maxRecDepth 100000 in
theorem zL_M_tens_4 (n : Nat) : ∀ {x1 : Int32} {x1z : Int} {y0 : Int32} {y0z : Int} {y1 : Int64} {y1z : Int} {y3 : Int32} {y3z : Int}  {Q : Int64 → Prop} {Qz : (Int → Prop)} (e_x1 : x1.toInt = x1z) (e_y0 : y0.toInt = y0z) (e_y1 : y1.toInt = y1z) (e_y3 : y3.toInt = y3z) (h_Q : ∀ (a0 : Int64), Qz a0.toInt → Q a0) (h : ZL_M_tens_4 n x1z y0z y1z y3z Qz), PL_M_tens_4 n x1 y0 y1 y3 Q := by
  induction n with
  | zero =>
    intro x1 x1z y0 y0z y1 y1z y3 y3z Q Qz e_x1 e_y0 e_y1 e_y3 h_Q h
    exact (h : False).elim
  | succ n ih =>
    intro x1 x1z y0 y0z y1 y1z y3 y3z Q Qz e_x1 e_y0 e_y1 e_y3 h_Q h
    subst e_x1
    subst e_y0
    subst e_y1
    subst e_y3
    rw [ZL_M_tens_4] at h
    rw [PL_M_tens_4]
    refine ⟨fun c2q => ?_, fun c2q => ?_⟩
    · have h := h.1 ((zt_le rfl rfl).mp c2q)
      exact h_Q _ h
    · have h := h.2 (fun k => c2q ((zt_le rfl rfl).mpr k))
      obtain ⟨o1q, h⟩ := h
      refine ih rfl rfl (show (y1 * 10).toInt = ((wl (y1.toInt * 10)) : Int) from (zt_lmul rfl rfl)) (show (((y3 + 1) : Int32)).toInt = ((y3.toInt + 1) : Int) from (zt_add rfl rfl o1q)) h_Q h
def Z_M_tens (x1 : Int) (Q : (Int → Prop)) : Prop := (∃ n2_, (ZL_M_tens_4 n2_ x1 x1 1 0 Q))
set_option maxRecDepth 100000 in
theorem z_M_tens {x1 : Int32} {x1z : Int}  {Q : Int64 → Prop} {Qz : (Int → Prop)} (e_x1 : x1.toInt = x1z) (h_Q : ∀ (a0 : Int64), Qz a0.toInt → Q a0) (h : Z_M_tens x1z Qz) : P_M_tens x1 Q := by
  subst e_x1
  unfold Z_M_tens at h
  unfold P_M_tens
  obtain ⟨n2_, h⟩ := h
  refine ⟨n2_, ?_⟩
  refine zL_M_tens_4 n2_ rfl rfl rfl rfl h_Q h

def ZL_M_copy_2 : Nat → (Nat → Int) → Int → (Nat → Int) → ((Nat → Int) → Prop) → Prop
  | 0, _, _, _, _ => False
  | n + 1, v0, y2, v1, Q => ((621 ≤ y2 → (Q v1)) ∧ (¬ 621 ≤ y2 → ((0 : Int) ≤ y2 ∧ (y2 : Int) < 621) ∧ (((0 : Int) ≤ y2 ∧ (y2 : Int) < 621) ∧ ((∀ v8_, v8_ = (updz v1 (Int.toNat y2) (v0 (Int.toNat y2))) → (zin (y2 + 1) ∧ (ZL_M_copy_2 n v0 (y2 + 1) v8_ Q)))))))
set_option maxRecDepth 100000 in
theorem zL_M_copy_2 (n : Nat) : ∀ {v0 : Nat → Int32} {v0z : (Nat → Int)} {y2 : Int32} {y2z : Int} {v1 : Nat → Int32} {v1z : (Nat → Int)}  {Q : (Nat → Int32) → Prop} {Qz : ((Nat → Int) → Prop)} (e_v0 : (aA v0) = v0z) (e_y2 : y2.toInt = y2z) (e_v1 : (aA v1) = v1z) (h_Q : ∀ (a0 : Nat → Int32), Qz (aA a0) → Q a0) (h : ZL_M_copy_2 n v0z y2z v1z Qz), PL_M_copy_2 n v0 y2 v1 Q := by
  induction n with
  | zero =>
    intro v0 v0z y2 y2z v1 v1z Q Qz e_v0 e_y2 e_v1 h_Q h
    exact (h : False).elim
  | succ n ih =>
    intro v0 v0z y2 y2z v1 v1z Q Qz e_v0 e_y2 e_v1 h_Q h
    subst e_v0
    subst e_y2
    subst e_v1
    rw [ZL_M_copy_2] at h
    rw [PL_M_copy_2]
    refine ⟨fun c4q => ?_, fun c4q => ?_⟩
    · have h := h.1 ((zt_le rfl rfl).mp c4q)
      exact h_Q _ h
    · have h := h.2 (fun k => c4q ((zt_le rfl rfl).mpr k))
      obtain ⟨i1q, h⟩ := h
      refine ⟨zt_in rfl i1q, ?_⟩
      obtain ⟨i2q, h⟩ := h
      refine ⟨zt_in rfl i2q, ?_⟩
      intro v8_ ev8_
      have h := h (aA v8_) (by rw [ev8_]; exact (show (aA (upd v1 (Int32.toNatClampNeg y2) (v0 (Int32.toNatClampNeg y2)))) = (updz (aA v1) (Int.toNat y2.toInt) ((aA v0) (Int.toNat y2.toInt))) from (zt_upd rfl rfl rfl)))
      obtain ⟨o3q, h⟩ := h
      refine ih rfl (show (((y2 + 1) : Int32)).toInt = ((y2.toInt + 1) : Int) from (zt_add rfl rfl o3q)) rfl h_Q h
def Z_M_copy (v0 : (Nat → Int)) (v1 : (Nat → Int)) (Q : ((Nat → Int) → Prop)) : Prop := (∃ n12_, (ZL_M_copy_2 n12_ v0 0 v1 Q))
set_option maxRecDepth 100000 in
theorem z_M_copy {v0 : Nat → Int32} {v0z : (Nat → Int)} {v1 : Nat → Int32} {v1z : (Nat → Int)}  {Q : (Nat → Int32) → Prop} {Qz : ((Nat → Int) → Prop)} (e_v0 : (aA v0) = v0z) (e_v1 : (aA v1) = v1z) (h_Q : ∀ (a0 : Nat → Int32), Qz (aA a0) → Q a0) (h : Z_M_copy v0z v1z Qz) : P_M_copy v0 v1 Q := by
  subst e_v0
  subst e_v1
  unfold Z_M_copy at h
  unfold P_M_copy
  obtain ⟨n12_, h⟩ := h
  refine ⟨n12_, ?_⟩
  refine zL_M_copy_2 n12_ rfl rfl rfl h_Q h

def Z_M_isName (x1 : Int) (Q : (Int → Prop)) : Prop := (Z_M_in x1 0 7 (fun r1_ => (r1_ = 0 ∨ r1_ = 1) ∧ ((Q r1_))))
set_option maxRecDepth 100000 in
theorem z_M_isName {x1 : Int32} {x1z : Int}  {Q : Int32 → Prop} {Qz : (Int → Prop)} (e_x1 : x1.toInt = x1z) (h_Q : ∀ (a0 : Int32), Qz a0.toInt → Q a0) (h : Z_M_isName x1z Qz) : P_M_isName x1 Q := by
  subst e_x1
  unfold Z_M_isName at h
  unfold P_M_isName
  refine z_M_in (show (Int32.toInt64 x1).toInt = (x1.toInt : Int) from (zt_i2l rfl)) rfl rfl (fun r1_ h => ?_) h
  obtain ⟨i1q, h⟩ := h
  refine ⟨zt_zb rfl i1q, ?_⟩
  exact h_Q _ h

def Z_M_isKey (x1 : Int) (Q : (Int → Prop)) : Prop := (Z_M_in x1 0 7 (fun r1_ => (r1_ = 0 ∨ r1_ = 1) ∧ ((Q r1_))))
set_option maxRecDepth 100000 in
theorem z_M_isKey {x1 : Int32} {x1z : Int}  {Q : Int32 → Prop} {Qz : (Int → Prop)} (e_x1 : x1.toInt = x1z) (h_Q : ∀ (a0 : Int32), Qz a0.toInt → Q a0) (h : Z_M_isKey x1z Qz) : P_M_isKey x1 Q := by
  subst e_x1
  unfold Z_M_isKey at h
  unfold P_M_isKey
  refine z_M_in (show (Int32.toInt64 x1).toInt = (x1.toInt : Int) from (zt_i2l rfl)) rfl rfl (fun r1_ h => ?_) h
  obtain ⟨i1q, h⟩ := h
  refine ⟨zt_zb rfl i1q, ?_⟩
  exact h_Q _ h

def Z_M_isRow (x1 : Int) (x2 : Int) (x3 : Int) (Q : (Int → Prop)) : Prop := (Z_M_isKey x1 (fun r1_ => ((r1_ = 0 → (Q 0)) ∧ (¬ r1_ = 0 → (Z_M_in x2 0 99 (fun r6_ => ((r6_ = 0 → (Q 0)) ∧ (¬ r6_ = 0 → (Z_M_in x3 1 40 (fun r11_ => ((r11_ = 0 → (Q 0)) ∧ (¬ r11_ = 0 → (Q 1)))))))))))))
set_option maxRecDepth 100000 in
theorem z_M_isRow {x1 : Int32} {x1z : Int} {x2 : Int32} {x2z : Int} {x3 : Int32} {x3z : Int}  {Q : Int32 → Prop} {Qz : (Int → Prop)} (e_x1 : x1.toInt = x1z) (e_x2 : x2.toInt = x2z) (e_x3 : x3.toInt = x3z) (h_Q : ∀ (a0 : Int32), Qz a0.toInt → Q a0) (h : Z_M_isRow x1z x2z x3z Qz) : P_M_isRow x1 x2 x3 Q := by
  subst e_x1
  subst e_x2
  subst e_x3
  unfold Z_M_isRow at h
  unfold P_M_isRow
  refine z_M_isKey rfl (fun r1_ h => ?_) h
  refine ⟨fun c3q => ?_, fun c3q => ?_⟩
  · have h := h.1 ((zt_eq rfl rfl).mp c3q)
    exact h_Q _ h
  · have h := h.2 (fun k => c3q ((zt_eq rfl rfl).mpr k))
    refine z_M_in (show (Int32.toInt64 x2).toInt = (x2.toInt : Int) from (zt_i2l rfl)) rfl rfl (fun r6_ h => ?_) h
    refine ⟨fun c2q => ?_, fun c2q => ?_⟩
    · have h := h.1 ((zt_eq rfl rfl).mp c2q)
      exact h_Q _ h
    · have h := h.2 (fun k => c2q ((zt_eq rfl rfl).mpr k))
      refine z_M_in (show (Int32.toInt64 x3).toInt = (x3.toInt : Int) from (zt_i2l rfl)) rfl rfl (fun r11_ h => ?_) h
      refine ⟨fun c1q => ?_, fun c1q => ?_⟩
      · have h := h.1 ((zt_eq rfl rfl).mp c1q)
        exact h_Q _ h
      · have h := h.2 (fun k => c1q ((zt_eq rfl rfl).mpr k))
        exact h_Q _ h

def Z_M_isSetting (x1 : Int) (x2 : Int) (Q : (Int → Prop)) : Prop := ((x1 = 0 → (Z_M_in x2 1 8 (fun r2_ => (r2_ = 0 ∨ r2_ = 1) ∧ ((Q r2_))))) ∧ (¬ x1 = 0 → ((x1 = 1 → (Z_M_in x2 40 200 (fun r7_ => (r7_ = 0 ∨ r7_ = 1) ∧ ((Q r7_))))) ∧ (¬ x1 = 1 → ((x1 = 2 → (Z_M_in x2 0 99 (fun r12_ => (r12_ = 0 ∨ r12_ = 1) ∧ ((Q r12_))))) ∧ (¬ x1 = 2 → ((x1 = 3 → (Z_M_in x2 0 4000 (fun r17_ => (r17_ = 0 ∨ r17_ = 1) ∧ ((Q r17_))))) ∧ (¬ x1 = 3 → ((x1 = 4 → (Z_M_in x2 0 4000 (fun r22_ => (r22_ = 0 ∨ r22_ = 1) ∧ ((Q r22_))))) ∧ (¬ x1 = 4 → ((¬ x1 = 5 → (Q 0)) ∧ (x1 = 5 → (Z_M_in x2 0 99 (fun r27_ => ((r27_ = 0 → (Q 0)) ∧ (¬ r27_ = 0 → (Q 1)))))))))))))))))
set_option maxRecDepth 100000 in
theorem z_M_isSetting {x1 : Int32} {x1z : Int} {x2 : Int32} {x2z : Int}  {Q : Int32 → Prop} {Qz : (Int → Prop)} (e_x1 : x1.toInt = x1z) (e_x2 : x2.toInt = x2z) (h_Q : ∀ (a0 : Int32), Qz a0.toInt → Q a0) (h : Z_M_isSetting x1z x2z Qz) : P_M_isSetting x1 x2 Q := by
  subst e_x1
  subst e_x2
  unfold Z_M_isSetting at h
  unfold P_M_isSetting
  refine ⟨fun c12q => ?_, fun c12q => ?_⟩
  · have h := h.1 ((zt_eq rfl rfl).mp c12q)
    refine z_M_in (show (Int32.toInt64 x2).toInt = (x2.toInt : Int) from (zt_i2l rfl)) rfl rfl (fun r2_ h => ?_) h
    obtain ⟨i1q, h⟩ := h
    refine ⟨zt_zb rfl i1q, ?_⟩
    exact h_Q _ h
  · have h := h.2 (fun k => c12q ((zt_eq rfl rfl).mpr k))
    refine ⟨fun c11q => ?_, fun c11q => ?_⟩
    · have h := h.1 ((zt_eq rfl rfl).mp c11q)
      refine z_M_in (show (Int32.toInt64 x2).toInt = (x2.toInt : Int) from (zt_i2l rfl)) rfl rfl (fun r7_ h => ?_) h
      obtain ⟨i2q, h⟩ := h
      refine ⟨zt_zb rfl i2q, ?_⟩
      exact h_Q _ h
    · have h := h.2 (fun k => c11q ((zt_eq rfl rfl).mpr k))
      refine ⟨fun c10q => ?_, fun c10q => ?_⟩
      · have h := h.1 ((zt_eq rfl rfl).mp c10q)
        refine z_M_in (show (Int32.toInt64 x2).toInt = (x2.toInt : Int) from (zt_i2l rfl)) rfl rfl (fun r12_ h => ?_) h
        obtain ⟨i3q, h⟩ := h
        refine ⟨zt_zb rfl i3q, ?_⟩
        exact h_Q _ h
      · have h := h.2 (fun k => c10q ((zt_eq rfl rfl).mpr k))
        refine ⟨fun c9q => ?_, fun c9q => ?_⟩
        · have h := h.1 ((zt_eq rfl rfl).mp c9q)
          refine z_M_in (show (Int32.toInt64 x2).toInt = (x2.toInt : Int) from (zt_i2l rfl)) rfl rfl (fun r17_ h => ?_) h
          obtain ⟨i4q, h⟩ := h
          refine ⟨zt_zb rfl i4q, ?_⟩
          exact h_Q _ h
        · have h := h.2 (fun k => c9q ((zt_eq rfl rfl).mpr k))
          refine ⟨fun c8q => ?_, fun c8q => ?_⟩
          · have h := h.1 ((zt_eq rfl rfl).mp c8q)
            refine z_M_in (show (Int32.toInt64 x2).toInt = (x2.toInt : Int) from (zt_i2l rfl)) rfl rfl (fun r22_ h => ?_) h
            obtain ⟨i5q, h⟩ := h
            refine ⟨zt_zb rfl i5q, ?_⟩
            exact h_Q _ h
          · have h := h.2 (fun k => c8q ((zt_eq rfl rfl).mpr k))
            refine ⟨fun c7q => ?_, fun c7q => ?_⟩
            · have h := h.1 (fun k => c7q ((zt_eq rfl rfl).mpr k))
              exact h_Q _ h
            · have h := h.2 ((zt_eq rfl rfl).mp c7q)
              refine z_M_in (show (Int32.toInt64 x2).toInt = (x2.toInt : Int) from (zt_i2l rfl)) rfl rfl (fun r27_ h => ?_) h
              refine ⟨fun c6q => ?_, fun c6q => ?_⟩
              · have h := h.1 ((zt_eq rfl rfl).mp c6q)
                exact h_Q _ h
              · have h := h.2 (fun k => c6q ((zt_eq rfl rfl).mpr k))
                exact h_Q _ h

def Z_M_reader (x1 : Int) (Q : (Int → Prop)) : Prop := zin (15 * x1) ∧ zin (410 + (15 * x1)) ∧ (Q (410 + (15 * x1)))
set_option maxRecDepth 100000 in
theorem z_M_reader {x1 : Int32} {x1z : Int}  {Q : Int32 → Prop} {Qz : (Int → Prop)} (e_x1 : x1.toInt = x1z) (h_Q : ∀ (a0 : Int32), Qz a0.toInt → Q a0) (h : Z_M_reader x1z Qz) : P_M_reader x1 Q := by
  subst e_x1
  unfold Z_M_reader at h
  unfold P_M_reader
  obtain ⟨o1q, h⟩ := h
  obtain ⟨o2q, h⟩ := h
  exact h_Q _ (Eq.mpr (congrArg (fun k => Qz k) (show (((410 + (15 * x1)) : Int32)).toInt = ((410 + (15 * x1.toInt)) : Int) from (zt_add rfl (show (((15 * x1) : Int32)).toInt = ((15 * x1.toInt) : Int) from (zt_mul rfl rfl o1q)) o2q))) h)

def Z_M_isReader (x1 : Int) (v0 : (Nat → Int)) (Q : (Int → Prop)) : Prop := (Z_M_isName x1 (fun r1_ => ((r1_ = 0 → (Q 0)) ∧ (¬ r1_ = 0 → (Z_M_reader x1 (fun r6_ => zin (r6_ + 0) ∧ ((0 : Int) ≤ (r6_ + 0) ∧ ((r6_ + 0) : Int) < 621) ∧ (((¬ (v0 (Int.toNat (r6_ + 0))) = 1 → (Q 0)) ∧ ((v0 (Int.toNat (r6_ + 0))) = 1 → (Q 1))))))))))
set_option maxRecDepth 100000 in
theorem z_M_isReader {x1 : Int32} {x1z : Int} {v0 : Nat → Int32} {v0z : (Nat → Int)}  {Q : Int32 → Prop} {Qz : (Int → Prop)} (e_x1 : x1.toInt = x1z) (e_v0 : (aA v0) = v0z) (h_Q : ∀ (a0 : Int32), Qz a0.toInt → Q a0) (h : Z_M_isReader x1z v0z Qz) : P_M_isReader x1 v0 Q := by
  subst e_x1
  subst e_v0
  unfold Z_M_isReader at h
  unfold P_M_isReader
  refine z_M_isName rfl (fun r1_ h => ?_) h
  refine ⟨fun c4q => ?_, fun c4q => ?_⟩
  · have h := h.1 ((zt_eq rfl rfl).mp c4q)
    exact h_Q _ h
  · have h := h.2 (fun k => c4q ((zt_eq rfl rfl).mpr k))
    refine z_M_reader rfl (fun r6_ h => ?_) h
    obtain ⟨o1q, h⟩ := h
    obtain ⟨i2q, h⟩ := h
    refine ⟨zt_in (show (((r6_ + 0) : Int32)).toInt = ((r6_.toInt + 0) : Int) from (zt_add rfl rfl o1q)) i2q, ?_⟩
    refine ⟨fun c3q => ?_, fun c3q => ?_⟩
    · have h := h.1 (fun k => c3q ((zt_eq (show (((v0 (Int32.toNatClampNeg (r6_ + 0))) : Int32)).toInt = (((aA v0) (Int.toNat (r6_.toInt + 0))) : Int) from (congrArg (fun k => (aA v0) k) (show (Int32.toNatClampNeg (r6_ + 0)) = (Int.toNat (r6_.toInt + 0)) from (congrArg Int.toNat (show (((r6_ + 0) : Int32)).toInt = ((r6_.toInt + 0) : Int) from (zt_add rfl rfl o1q)))))) rfl).mpr k))
      exact h_Q _ h
    · have h := h.2 ((zt_eq (show (((v0 (Int32.toNatClampNeg (r6_ + 0))) : Int32)).toInt = (((aA v0) (Int.toNat (r6_.toInt + 0))) : Int) from (congrArg (fun k => (aA v0) k) (show (Int32.toNatClampNeg (r6_ + 0)) = (Int.toNat (r6_.toInt + 0)) from (congrArg Int.toNat (show (((r6_ + 0) : Int32)).toInt = ((r6_.toInt + 0) : Int) from (zt_add rfl rfl o1q)))))) rfl).mp c3q)
      exact h_Q _ h

def Z_M_key (x1 : Int) (v0 : (Nat → Int)) (Q : (Int → Prop)) : Prop := zin (0 + x1) ∧ ((0 : Int) ≤ (0 + x1) ∧ ((0 + x1) : Int) < 621) ∧ ((Q (Int.tmod (v0 (Int.toNat (0 + x1))) 8)))
set_option maxRecDepth 100000 in
theorem z_M_key {x1 : Int32} {x1z : Int} {v0 : Nat → Int32} {v0z : (Nat → Int)}  {Q : Int32 → Prop} {Qz : (Int → Prop)} (e_x1 : x1.toInt = x1z) (e_v0 : (aA v0) = v0z) (h_Q : ∀ (a0 : Int32), Qz a0.toInt → Q a0) (h : Z_M_key x1z v0z Qz) : P_M_key x1 v0 Q := by
  subst e_x1
  subst e_v0
  unfold Z_M_key at h
  unfold P_M_key
  obtain ⟨o1q, h⟩ := h
  obtain ⟨i2q, h⟩ := h
  refine ⟨zt_in (show (((0 + x1) : Int32)).toInt = ((0 + x1.toInt) : Int) from (zt_add rfl rfl o1q)) i2q, ?_⟩
  exact h_Q _ (Eq.mpr (congrArg (fun k => Qz k) (show (((zrem (v0 (Int32.toNatClampNeg (0 + x1))) 8) : Int32)).toInt = ((Int.tmod ((aA v0) (Int.toNat (0 + x1.toInt))) 8) : Int) from (zt_rem (show (((v0 (Int32.toNatClampNeg (0 + x1))) : Int32)).toInt = (((aA v0) (Int.toNat (0 + x1.toInt))) : Int) from (congrArg (fun k => (aA v0) k) (show (Int32.toNatClampNeg (0 + x1)) = (Int.toNat (0 + x1.toInt)) from (congrArg Int.toNat (show (((0 + x1) : Int32)).toInt = ((0 + x1.toInt) : Int) from (zt_add rfl rfl o1q)))))) rfl (by decide) (by decide)))) h)

def Z_M_begins (x1 : Int) (v0 : (Nat → Int)) (Q : (Int → Prop)) : Prop := zin (0 + x1) ∧ ((0 : Int) ≤ (0 + x1) ∧ ((0 + x1) : Int) < 621) ∧ (((¬ (Int.tmod (Int.tdiv (v0 (Int.toNat (0 + x1))) 8) 2) = 1 → (Q 0)) ∧ ((Int.tmod (Int.tdiv (v0 (Int.toNat (0 + x1))) 8) 2) = 1 → (Q 1))))
set_option maxRecDepth 100000 in
theorem z_M_begins {x1 : Int32} {x1z : Int} {v0 : Nat → Int32} {v0z : (Nat → Int)}  {Q : Int32 → Prop} {Qz : (Int → Prop)} (e_x1 : x1.toInt = x1z) (e_v0 : (aA v0) = v0z) (h_Q : ∀ (a0 : Int32), Qz a0.toInt → Q a0) (h : Z_M_begins x1z v0z Qz) : P_M_begins x1 v0 Q := by
  subst e_x1
  subst e_v0
  unfold Z_M_begins at h
  unfold P_M_begins
  obtain ⟨o1q, h⟩ := h
  obtain ⟨i2q, h⟩ := h
  refine ⟨zt_in (show (((0 + x1) : Int32)).toInt = ((0 + x1.toInt) : Int) from (zt_add rfl rfl o1q)) i2q, ?_⟩
  refine ⟨fun c3q => ?_, fun c3q => ?_⟩
  · have h := h.1 (fun k => c3q ((zt_eq (show (((zrem ((v0 (Int32.toNatClampNeg (0 + x1))) / 8) 2) : Int32)).toInt = ((Int.tmod (Int.tdiv ((aA v0) (Int.toNat (0 + x1.toInt))) 8) 2) : Int) from (zt_rem (show ((((v0 (Int32.toNatClampNeg (0 + x1))) / 8) : Int32)).toInt = ((Int.tdiv ((aA v0) (Int.toNat (0 + x1.toInt))) 8) : Int) from (zt_div (show (((v0 (Int32.toNatClampNeg (0 + x1))) : Int32)).toInt = (((aA v0) (Int.toNat (0 + x1.toInt))) : Int) from (congrArg (fun k => (aA v0) k) (show (Int32.toNatClampNeg (0 + x1)) = (Int.toNat (0 + x1.toInt)) from (congrArg Int.toNat (show (((0 + x1) : Int32)).toInt = ((0 + x1.toInt) : Int) from (zt_add rfl rfl o1q)))))) rfl (by decide))) rfl (by decide) (by decide))) rfl).mpr k))
    exact h_Q _ h
  · have h := h.2 ((zt_eq (show (((zrem ((v0 (Int32.toNatClampNeg (0 + x1))) / 8) 2) : Int32)).toInt = ((Int.tmod (Int.tdiv ((aA v0) (Int.toNat (0 + x1.toInt))) 8) 2) : Int) from (zt_rem (show ((((v0 (Int32.toNatClampNeg (0 + x1))) / 8) : Int32)).toInt = ((Int.tdiv ((aA v0) (Int.toNat (0 + x1.toInt))) 8) : Int) from (zt_div (show (((v0 (Int32.toNatClampNeg (0 + x1))) : Int32)).toInt = (((aA v0) (Int.toNat (0 + x1.toInt))) : Int) from (congrArg (fun k => (aA v0) k) (show (Int32.toNatClampNeg (0 + x1)) = (Int.toNat (0 + x1.toInt)) from (congrArg Int.toNat (show (((0 + x1) : Int32)).toInt = ((0 + x1.toInt) : Int) from (zt_add rfl rfl o1q)))))) rfl (by decide))) rfl (by decide) (by decide))) rfl).mp c3q)
    exact h_Q _ h

def Z_M_value (x1 : Int) (v0 : (Nat → Int)) (Q : (Int → Prop)) : Prop := zin (0 + x1) ∧ ((0 : Int) ≤ (0 + x1) ∧ ((0 + x1) : Int) < 621) ∧ ((Q (Int.tmod (Int.tdiv (v0 (Int.toNat (0 + x1))) 16) 100)))
set_option maxRecDepth 100000 in
theorem z_M_value {x1 : Int32} {x1z : Int} {v0 : Nat → Int32} {v0z : (Nat → Int)}  {Q : Int32 → Prop} {Qz : (Int → Prop)} (e_x1 : x1.toInt = x1z) (e_v0 : (aA v0) = v0z) (h_Q : ∀ (a0 : Int32), Qz a0.toInt → Q a0) (h : Z_M_value x1z v0z Qz) : P_M_value x1 v0 Q := by
  subst e_x1
  subst e_v0
  unfold Z_M_value at h
  unfold P_M_value
  obtain ⟨o1q, h⟩ := h
  obtain ⟨i2q, h⟩ := h
  refine ⟨zt_in (show (((0 + x1) : Int32)).toInt = ((0 + x1.toInt) : Int) from (zt_add rfl rfl o1q)) i2q, ?_⟩
  exact h_Q _ (Eq.mpr (congrArg (fun k => Qz k) (show (((zrem ((v0 (Int32.toNatClampNeg (0 + x1))) / 16) 100) : Int32)).toInt = ((Int.tmod (Int.tdiv ((aA v0) (Int.toNat (0 + x1.toInt))) 16) 100) : Int) from (zt_rem (show ((((v0 (Int32.toNatClampNeg (0 + x1))) / 16) : Int32)).toInt = ((Int.tdiv ((aA v0) (Int.toNat (0 + x1.toInt))) 16) : Int) from (zt_div (show (((v0 (Int32.toNatClampNeg (0 + x1))) : Int32)).toInt = (((aA v0) (Int.toNat (0 + x1.toInt))) : Int) from (congrArg (fun k => (aA v0) k) (show (Int32.toNatClampNeg (0 + x1)) = (Int.toNat (0 + x1.toInt)) from (congrArg Int.toNat (show (((0 + x1) : Int32)).toInt = ((0 + x1.toInt) : Int) from (zt_add rfl rfl o1q)))))) rfl (by decide))) rfl (by decide) (by decide)))) h)

def Z_M_size (x1 : Int) (v0 : (Nat → Int)) (Q : (Int → Prop)) : Prop := zin (0 + x1) ∧ ((0 : Int) ≤ (0 + x1) ∧ ((0 + x1) : Int) < 621) ∧ ((Q (Int.tdiv (v0 (Int.toNat (0 + x1))) 1600)))
set_option maxRecDepth 100000 in
theorem z_M_size {x1 : Int32} {x1z : Int} {v0 : Nat → Int32} {v0z : (Nat → Int)}  {Q : Int32 → Prop} {Qz : (Int → Prop)} (e_x1 : x1.toInt = x1z) (e_v0 : (aA v0) = v0z) (h_Q : ∀ (a0 : Int32), Qz a0.toInt → Q a0) (h : Z_M_size x1z v0z Qz) : P_M_size x1 v0 Q := by
  subst e_x1
  subst e_v0
  unfold Z_M_size at h
  unfold P_M_size
  obtain ⟨o1q, h⟩ := h
  obtain ⟨i2q, h⟩ := h
  refine ⟨zt_in (show (((0 + x1) : Int32)).toInt = ((0 + x1.toInt) : Int) from (zt_add rfl rfl o1q)) i2q, ?_⟩
  exact h_Q _ (Eq.mpr (congrArg (fun k => Qz k) (show ((((v0 (Int32.toNatClampNeg (0 + x1))) / 1600) : Int32)).toInt = ((Int.tdiv ((aA v0) (Int.toNat (0 + x1.toInt))) 1600) : Int) from (zt_div (show (((v0 (Int32.toNatClampNeg (0 + x1))) : Int32)).toInt = (((aA v0) (Int.toNat (0 + x1.toInt))) : Int) from (congrArg (fun k => (aA v0) k) (show (Int32.toNatClampNeg (0 + x1)) = (Int.toNat (0 + x1.toInt)) from (congrArg Int.toNat (show (((0 + x1) : Int32)).toInt = ((0 + x1.toInt) : Int) from (zt_add rfl rfl o1q)))))) rfl (by decide)))) h)

def ZL_M_sizes_5 : Nat → Int → Int → (Nat → Int) → Int → Int → Int → (Int → Prop) → Prop
  | 0, _, _, _, _, _, _, _ => False
  | n + 1, x1, x2, v0, y2, y3, y4, Q => ((y2 ≤ y4 → (Q y3)) ∧ (¬ y2 ≤ y4 → (Z_M_size y4 v0 (fun r2_ => zin (y3 + r2_) ∧ zin (y4 + 1) ∧ (ZL_M_sizes_5 n x1 x2 v0 y2 (y3 + r2_) (y4 + 1) Q)))))
set_option maxRecDepth 100000 in
theorem zL_M_sizes_5 (n : Nat) : ∀ {x1 : Int32} {x1z : Int} {x2 : Int32} {x2z : Int} {v0 : Nat → Int32} {v0z : (Nat → Int)} {y2 : Int32} {y2z : Int} {y3 : Int32} {y3z : Int} {y4 : Int32} {y4z : Int}  {Q : Int32 → Prop} {Qz : (Int → Prop)} (e_x1 : x1.toInt = x1z) (e_x2 : x2.toInt = x2z) (e_v0 : (aA v0) = v0z) (e_y2 : y2.toInt = y2z) (e_y3 : y3.toInt = y3z) (e_y4 : y4.toInt = y4z) (h_Q : ∀ (a0 : Int32), Qz a0.toInt → Q a0) (h : ZL_M_sizes_5 n x1z x2z v0z y2z y3z y4z Qz), PL_M_sizes_5 n x1 x2 v0 y2 y3 y4 Q := by
  induction n with
  | zero =>
    intro x1 x1z x2 x2z v0 v0z y2 y2z y3 y3z y4 y4z Q Qz e_x1 e_x2 e_v0 e_y2 e_y3 e_y4 h_Q h
    exact (h : False).elim
  | succ n ih =>
    intro x1 x1z x2 x2z v0 v0z y2 y2z y3 y3z y4 y4z Q Qz e_x1 e_x2 e_v0 e_y2 e_y3 e_y4 h_Q h
    subst e_x1
    subst e_x2
    subst e_v0
    subst e_y2
    subst e_y3
    subst e_y4
    rw [ZL_M_sizes_5] at h
    rw [PL_M_sizes_5]
    refine ⟨fun c3q => ?_, fun c3q => ?_⟩
    · have h := h.1 ((zt_le rfl rfl).mp c3q)
      exact h_Q _ h
    · have h := h.2 (fun k => c3q ((zt_le rfl rfl).mpr k))
      refine z_M_size rfl rfl (fun r2_ h => ?_) h
      obtain ⟨o1q, h⟩ := h
      obtain ⟨o2q, h⟩ := h
      refine ih rfl rfl rfl rfl (show (((y3 + r2_) : Int32)).toInt = ((y3.toInt + r2_.toInt) : Int) from (zt_add rfl rfl o1q)) (show (((y4 + 1) : Int32)).toInt = ((y4.toInt + 1) : Int) from (zt_add rfl rfl o2q)) h_Q h
def Z_M_sizes (x1 : Int) (x2 : Int) (v0 : (Nat → Int)) (Q : (Int → Prop)) : Prop := (∃ n6_, (ZL_M_sizes_5 n6_ x1 x2 v0 x2 0 x1 Q))
set_option maxRecDepth 100000 in
theorem z_M_sizes {x1 : Int32} {x1z : Int} {x2 : Int32} {x2z : Int} {v0 : Nat → Int32} {v0z : (Nat → Int)}  {Q : Int32 → Prop} {Qz : (Int → Prop)} (e_x1 : x1.toInt = x1z) (e_x2 : x2.toInt = x2z) (e_v0 : (aA v0) = v0z) (h_Q : ∀ (a0 : Int32), Qz a0.toInt → Q a0) (h : Z_M_sizes x1z x2z v0z Qz) : P_M_sizes x1 x2 v0 Q := by
  subst e_x1
  subst e_x2
  subst e_v0
  unfold Z_M_sizes at h
  unfold P_M_sizes
  obtain ⟨n6_, h⟩ := h
  refine ⟨n6_, ?_⟩
  refine zL_M_sizes_5 n6_ rfl rfl rfl rfl rfl rfl h_Q h

def ZL_M_segments_8 : Nat → (Nat → Int) → Int → Int → (Int → Prop) → Prop
  | 0, _, _, _, _ => False
  | n + 1, v0, y1, y2, Q => ((0 : Int) ≤ 401 ∧ (401 : Int) < 621) ∧ ((((v0 (Int.toNat 401)) ≤ y2 → (Q y1)) ∧ (¬ (v0 (Int.toNat 401)) ≤ y2 → (Z_M_begins y2 v0 (fun r4_ => ((r4_ = 0 → zin (y1 + 0) ∧ zin (y2 + 1) ∧ (ZL_M_segments_8 n v0 (y1 + 0) (y2 + 1) Q)) ∧ (¬ r4_ = 0 → zin (y1 + 1) ∧ zin (y2 + 1) ∧ (ZL_M_segments_8 n v0 (y1 + 1) (y2 + 1) Q))))))))
set_option maxRecDepth 100000 in
theorem zL_M_segments_8 (n : Nat) : ∀ {v0 : Nat → Int32} {v0z : (Nat → Int)} {y1 : Int32} {y1z : Int} {y2 : Int32} {y2z : Int}  {Q : Int32 → Prop} {Qz : (Int → Prop)} (e_v0 : (aA v0) = v0z) (e_y1 : y1.toInt = y1z) (e_y2 : y2.toInt = y2z) (h_Q : ∀ (a0 : Int32), Qz a0.toInt → Q a0) (h : ZL_M_segments_8 n v0z y1z y2z Qz), PL_M_segments_8 n v0 y1 y2 Q := by
  induction n with
  | zero =>
    intro v0 v0z y1 y1z y2 y2z Q Qz e_v0 e_y1 e_y2 h_Q h
    exact (h : False).elim
  | succ n ih =>
    intro v0 v0z y1 y1z y2 y2z Q Qz e_v0 e_y1 e_y2 h_Q h
    subst e_v0
    subst e_y1
    subst e_y2
    rw [ZL_M_segments_8] at h
    rw [PL_M_segments_8]
    obtain ⟨i1q, h⟩ := h
    refine ⟨zt_in (show (401 : Int32).toInt = 401 from by decide) i1q, ?_⟩
    refine ⟨fun c7q => ?_, fun c7q => ?_⟩
    · have h := h.1 ((zt_le rfl rfl).mp c7q)
      exact h_Q _ h
    · have h := h.2 (fun k => c7q ((zt_le rfl rfl).mpr k))
      refine z_M_begins rfl rfl (fun r4_ h => ?_) h
      refine ⟨fun c6q => ?_, fun c6q => ?_⟩
      · have h := h.1 ((zt_eq rfl rfl).mp c6q)
        obtain ⟨o2q, h⟩ := h
        obtain ⟨o3q, h⟩ := h
        refine ih rfl (show (((y1 + 0) : Int32)).toInt = ((y1.toInt + 0) : Int) from (zt_add rfl rfl o2q)) (show (((y2 + 1) : Int32)).toInt = ((y2.toInt + 1) : Int) from (zt_add rfl rfl o3q)) h_Q h
      · have h := h.2 (fun k => c6q ((zt_eq rfl rfl).mpr k))
        obtain ⟨o4q, h⟩ := h
        obtain ⟨o5q, h⟩ := h
        refine ih rfl (show (((y1 + 1) : Int32)).toInt = ((y1.toInt + 1) : Int) from (zt_add rfl rfl o4q)) (show (((y2 + 1) : Int32)).toInt = ((y2.toInt + 1) : Int) from (zt_add rfl rfl o5q)) h_Q h
def Z_M_segments (v0 : (Nat → Int)) (Q : (Int → Prop)) : Prop := ((0 : Int) ≤ 400 ∧ (400 : Int) < 621) ∧ ((∃ n9_, (ZL_M_segments_8 n9_ v0 0 (v0 (Int.toNat 400)) Q)))
set_option maxRecDepth 100000 in
theorem z_M_segments {v0 : Nat → Int32} {v0z : (Nat → Int)}  {Q : Int32 → Prop} {Qz : (Int → Prop)} (e_v0 : (aA v0) = v0z) (h_Q : ∀ (a0 : Int32), Qz a0.toInt → Q a0) (h : Z_M_segments v0z Qz) : P_M_segments v0 Q := by
  subst e_v0
  unfold Z_M_segments at h
  unfold P_M_segments
  obtain ⟨i1q, h⟩ := h
  refine ⟨zt_in (show (400 : Int32).toInt = 400 from by decide) i1q, ?_⟩
  obtain ⟨n9_, h⟩ := h
  refine ⟨n9_, ?_⟩
  refine zL_M_segments_8 n9_ rfl rfl rfl h_Q h

def ZL_M_segmentAt_2 : Nat → Int → (Nat → Int) → Int → (Int → Prop) → Prop
  | 0, _, _, _, _ => False
  | n + 1, x1, v0, y2, Q => (Z_M_begins y2 v0 (fun r1_ => ((¬ r1_ = 0 → (Q y2)) ∧ (r1_ = 0 → zin (y2 + (-1)) ∧ (ZL_M_segmentAt_2 n x1 v0 (y2 + (-1)) Q)))))
set_option maxRecDepth 100000 in
theorem zL_M_segmentAt_2 (n : Nat) : ∀ {x1 : Int32} {x1z : Int} {v0 : Nat → Int32} {v0z : (Nat → Int)} {y2 : Int32} {y2z : Int}  {Q : Int32 → Prop} {Qz : (Int → Prop)} (e_x1 : x1.toInt = x1z) (e_v0 : (aA v0) = v0z) (e_y2 : y2.toInt = y2z) (h_Q : ∀ (a0 : Int32), Qz a0.toInt → Q a0) (h : ZL_M_segmentAt_2 n x1z v0z y2z Qz), PL_M_segmentAt_2 n x1 v0 y2 Q := by
  induction n with
  | zero =>
    intro x1 x1z v0 v0z y2 y2z Q Qz e_x1 e_v0 e_y2 h_Q h
    exact (h : False).elim
  | succ n ih =>
    intro x1 x1z v0 v0z y2 y2z Q Qz e_x1 e_v0 e_y2 h_Q h
    subst e_x1
    subst e_v0
    subst e_y2
    rw [ZL_M_segmentAt_2] at h
    rw [PL_M_segmentAt_2]
    refine z_M_begins rfl rfl (fun r1_ h => ?_) h
    refine ⟨fun c2q => ?_, fun c2q => ?_⟩
    · have h := h.1 (fun k => c2q ((zt_eq rfl rfl).mpr k))
      exact h_Q _ h
    · have h := h.2 ((zt_eq rfl rfl).mp c2q)
      obtain ⟨o1q, h⟩ := h
      refine ih rfl rfl (show (((y2 + (-1)) : Int32)).toInt = ((y2.toInt + (-1)) : Int) from (zt_add rfl rfl o1q)) h_Q h
def Z_M_segmentAt (x1 : Int) (v0 : (Nat → Int)) (Q : (Int → Prop)) : Prop := (∃ n6_, (ZL_M_segmentAt_2 n6_ x1 v0 x1 Q))
set_option maxRecDepth 100000 in
theorem z_M_segmentAt {x1 : Int32} {x1z : Int} {v0 : Nat → Int32} {v0z : (Nat → Int)}  {Q : Int32 → Prop} {Qz : (Int → Prop)} (e_x1 : x1.toInt = x1z) (e_v0 : (aA v0) = v0z) (h_Q : ∀ (a0 : Int32), Qz a0.toInt → Q a0) (h : Z_M_segmentAt x1z v0z Qz) : P_M_segmentAt x1 v0 Q := by
  subst e_x1
  subst e_v0
  unfold Z_M_segmentAt at h
  unfold P_M_segmentAt
  obtain ⟨n6_, h⟩ := h
  refine ⟨n6_, ?_⟩
  refine zL_M_segmentAt_2 n6_ rfl rfl rfl h_Q h

def ZL_M_behind_4 : Nat → Int → (Nat → Int) → Int → (Int → Prop) → Prop
  | 0, _, _, _, _ => False
  | n + 1, x1, v0, y2, Q => ((0 : Int) ≤ 401 ∧ (401 : Int) < 621) ∧ ((((v0 (Int.toNat 401)) ≤ y2 → (Q y2)) ∧ (¬ (v0 (Int.toNat 401)) ≤ y2 → (Z_M_begins y2 v0 (fun r3_ => ((¬ r3_ = 0 → (Q y2)) ∧ (r3_ = 0 → zin (y2 + 1) ∧ (ZL_M_behind_4 n x1 v0 (y2 + 1) Q))))))))
set_option maxRecDepth 100000 in
theorem zL_M_behind_4 (n : Nat) : ∀ {x1 : Int32} {x1z : Int} {v0 : Nat → Int32} {v0z : (Nat → Int)} {y2 : Int32} {y2z : Int}  {Q : Int32 → Prop} {Qz : (Int → Prop)} (e_x1 : x1.toInt = x1z) (e_v0 : (aA v0) = v0z) (e_y2 : y2.toInt = y2z) (h_Q : ∀ (a0 : Int32), Qz a0.toInt → Q a0) (h : ZL_M_behind_4 n x1z v0z y2z Qz), PL_M_behind_4 n x1 v0 y2 Q := by
  induction n with
  | zero =>
    intro x1 x1z v0 v0z y2 y2z Q Qz e_x1 e_v0 e_y2 h_Q h
    exact (h : False).elim
  | succ n ih =>
    intro x1 x1z v0 v0z y2 y2z Q Qz e_x1 e_v0 e_y2 h_Q h
    subst e_x1
    subst e_v0
    subst e_y2
    rw [ZL_M_behind_4] at h
    rw [PL_M_behind_4]
    obtain ⟨i1q, h⟩ := h
    refine ⟨zt_in (show (401 : Int32).toInt = 401 from by decide) i1q, ?_⟩
    refine ⟨fun c4q => ?_, fun c4q => ?_⟩
    · have h := h.1 ((zt_le rfl rfl).mp c4q)
      exact h_Q _ h
    · have h := h.2 (fun k => c4q ((zt_le rfl rfl).mpr k))
      refine z_M_begins rfl rfl (fun r3_ h => ?_) h
      refine ⟨fun c3q => ?_, fun c3q => ?_⟩
      · have h := h.1 (fun k => c3q ((zt_eq rfl rfl).mpr k))
        exact h_Q _ h
      · have h := h.2 ((zt_eq rfl rfl).mp c3q)
        obtain ⟨o2q, h⟩ := h
        refine ih rfl rfl (show (((y2 + 1) : Int32)).toInt = ((y2.toInt + 1) : Int) from (zt_add rfl rfl o2q)) h_Q h
def Z_M_behind (x1 : Int) (v0 : (Nat → Int)) (Q : (Int → Prop)) : Prop := (∃ n8_, zin (x1 + 1) ∧ (ZL_M_behind_4 n8_ x1 v0 (x1 + 1) Q))
set_option maxRecDepth 100000 in
theorem z_M_behind {x1 : Int32} {x1z : Int} {v0 : Nat → Int32} {v0z : (Nat → Int)}  {Q : Int32 → Prop} {Qz : (Int → Prop)} (e_x1 : x1.toInt = x1z) (e_v0 : (aA v0) = v0z) (h_Q : ∀ (a0 : Int32), Qz a0.toInt → Q a0) (h : Z_M_behind x1z v0z Qz) : P_M_behind x1 v0 Q := by
  subst e_x1
  subst e_v0
  unfold Z_M_behind at h
  unfold P_M_behind
  obtain ⟨n8_, h⟩ := h
  refine ⟨n8_, ?_⟩
  obtain ⟨o1q, h⟩ := h
  refine zL_M_behind_4 n8_ rfl rfl (show (((x1 + 1) : Int32)).toInt = ((x1.toInt + 1) : Int) from (zt_add rfl rfl o1q)) h_Q h

def ZL_M_firstOf_8 : Nat → Int → (Nat → Int) → Int → Int → (Int → Prop) → Prop
  | 0, _, _, _, _, _ => False
  | n + 1, x1, v0, y2, y3, Q => ((y3 ≤ 0 → (Q y2)) ∧ (¬ y3 ≤ 0 → (Z_M_behind y2 v0 (fun r3_ => zin (y3 + (-1)) ∧ (ZL_M_firstOf_8 n x1 v0 r3_ (y3 + (-1)) Q)))))
set_option maxRecDepth 100000 in
theorem zL_M_firstOf_8 (n : Nat) : ∀ {x1 : Int32} {x1z : Int} {v0 : Nat → Int32} {v0z : (Nat → Int)} {y2 : Int32} {y2z : Int} {y3 : Int32} {y3z : Int}  {Q : Int32 → Prop} {Qz : (Int → Prop)} (e_x1 : x1.toInt = x1z) (e_v0 : (aA v0) = v0z) (e_y2 : y2.toInt = y2z) (e_y3 : y3.toInt = y3z) (h_Q : ∀ (a0 : Int32), Qz a0.toInt → Q a0) (h : ZL_M_firstOf_8 n x1z v0z y2z y3z Qz), PL_M_firstOf_8 n x1 v0 y2 y3 Q := by
  induction n with
  | zero =>
    intro x1 x1z v0 v0z y2 y2z y3 y3z Q Qz e_x1 e_v0 e_y2 e_y3 h_Q h
    exact (h : False).elim
  | succ n ih =>
    intro x1 x1z v0 v0z y2 y2z y3 y3z Q Qz e_x1 e_v0 e_y2 e_y3 h_Q h
    subst e_x1
    subst e_v0
    subst e_y2
    subst e_y3
    rw [ZL_M_firstOf_8] at h
    rw [PL_M_firstOf_8]
    refine ⟨fun c2q => ?_, fun c2q => ?_⟩
    · have h := h.1 ((zt_le rfl rfl).mp c2q)
      exact h_Q _ h
    · have h := h.2 (fun k => c2q ((zt_le rfl rfl).mpr k))
      refine z_M_behind rfl rfl (fun r3_ h => ?_) h
      obtain ⟨o1q, h⟩ := h
      refine ih rfl rfl rfl (show (((y3 + (-1)) : Int32)).toInt = ((y3.toInt + (-1)) : Int) from (zt_add rfl rfl o1q)) h_Q h
def Z_M_firstOf (x1 : Int) (v0 : (Nat → Int)) (Q : (Int → Prop)) : Prop := ((0 : Int) ≤ 400 ∧ (400 : Int) < 621) ∧ ((∃ n7_, (ZL_M_firstOf_8 n7_ x1 v0 (v0 (Int.toNat 400)) x1 Q)))
set_option maxRecDepth 100000 in
theorem z_M_firstOf {x1 : Int32} {x1z : Int} {v0 : Nat → Int32} {v0z : (Nat → Int)}  {Q : Int32 → Prop} {Qz : (Int → Prop)} (e_x1 : x1.toInt = x1z) (e_v0 : (aA v0) = v0z) (h_Q : ∀ (a0 : Int32), Qz a0.toInt → Q a0) (h : Z_M_firstOf x1z v0z Qz) : P_M_firstOf x1 v0 Q := by
  subst e_x1
  subst e_v0
  unfold Z_M_firstOf at h
  unfold P_M_firstOf
  obtain ⟨i1q, h⟩ := h
  refine ⟨zt_in (show (400 : Int32).toInt = 400 from by decide) i1q, ?_⟩
  obtain ⟨n7_, h⟩ := h
  refine ⟨n7_, ?_⟩
  refine zL_M_firstOf_8 n7_ rfl rfl rfl rfl h_Q h

def ZJ_M_isDue_42 (x1 : Int) (v0 : (Nat → Int)) (u0 : Int) (Q : (Int → Prop)) : Prop := ((¬ u0 = 0 → (Q 1)) ∧ (u0 = 0 → ((0 : Int) ≤ 400 ∧ (400 : Int) < 621) ∧ (((0 : Int) ≤ 401 ∧ (401 : Int) < 621) ∧ ((Z_M_sizes (v0 (Int.toNat 400)) (v0 (Int.toNat 401)) v0 (fun r10_ => ((0 : Int) ≤ 613 ∧ (613 : Int) < 621) ∧ (((r10_ ≤ (v0 (Int.toNat 613)) → (Q 0)) ∧ (¬ r10_ ≤ (v0 (Int.toNat 613)) → (Q 1))))))))))
set_option maxRecDepth 100000 in
theorem zJ_M_isDue_42 {x1 : Int32} {x1z : Int} {v0 : Nat → Int32} {v0z : (Nat → Int)} {u0 : Int32} {u0z : Int}  {Q : Int32 → Prop} {Qz : (Int → Prop)} (e_x1 : x1.toInt = x1z) (e_v0 : (aA v0) = v0z) (e_u0 : u0.toInt = u0z) (h_Q : ∀ (a0 : Int32), Qz a0.toInt → Q a0) (h : ZJ_M_isDue_42 x1z v0z u0z Qz) : PJ_M_isDue_42 x1 v0 u0 Q := by
  subst e_x1
  subst e_v0
  subst e_u0
  unfold ZJ_M_isDue_42 at h
  unfold PJ_M_isDue_42
  refine ⟨fun c5q => ?_, fun c5q => ?_⟩
  · have h := h.1 (fun k => c5q ((zt_eq rfl rfl).mpr k))
    exact h_Q _ h
  · have h := h.2 ((zt_eq rfl rfl).mp c5q)
    obtain ⟨i1q, h⟩ := h
    refine ⟨zt_in (show (400 : Int32).toInt = 400 from by decide) i1q, ?_⟩
    obtain ⟨i2q, h⟩ := h
    refine ⟨zt_in (show (401 : Int32).toInt = 401 from by decide) i2q, ?_⟩
    refine z_M_sizes rfl rfl rfl (fun r10_ h => ?_) h
    obtain ⟨i3q, h⟩ := h
    refine ⟨zt_in (show (613 : Int32).toInt = 613 from by decide) i3q, ?_⟩
    refine ⟨fun c4q => ?_, fun c4q => ?_⟩
    · have h := h.1 ((zt_le rfl rfl).mp c4q)
      exact h_Q _ h
    · have h := h.2 (fun k => c4q ((zt_le rfl rfl).mpr k))
      exact h_Q _ h
def ZJ_M_isDue_41 (x1 : Int) (v0 : (Nat → Int)) (Q : (Int → Prop)) : Prop := (ZJ_M_isDue_42 x1 v0 0 Q)
set_option maxRecDepth 100000 in
theorem zJ_M_isDue_41 {x1 : Int32} {x1z : Int} {v0 : Nat → Int32} {v0z : (Nat → Int)}  {Q : Int32 → Prop} {Qz : (Int → Prop)} (e_x1 : x1.toInt = x1z) (e_v0 : (aA v0) = v0z) (h_Q : ∀ (a0 : Int32), Qz a0.toInt → Q a0) (h : ZJ_M_isDue_41 x1z v0z Qz) : PJ_M_isDue_41 x1 v0 Q := by
  subst e_x1
  subst e_v0
  unfold ZJ_M_isDue_41 at h
  unfold PJ_M_isDue_41
  refine zJ_M_isDue_42 rfl rfl rfl h_Q h
def Z_M_isDue (x1 : Int) (v0 : (Nat → Int)) (Q : (Int → Prop)) : Prop := (Z_M_behind x1 v0 (fun r1_ => ((0 : Int) ≤ 612 ∧ (612 : Int) < 621) ∧ ((((v0 (Int.toNat 612)) ≤ 0 → (ZJ_M_isDue_41 x1 v0 Q)) ∧ (¬ (v0 (Int.toNat 612)) ≤ 0 → ((0 : Int) ≤ 616 ∧ (616 : Int) < 621) ∧ (zin (r1_ - 1) ∧ zin (200 + (r1_ - 1)) ∧ ((0 : Int) ≤ (200 + (r1_ - 1)) ∧ ((200 + (r1_ - 1)) : Int) < 621) ∧ (((0 : Int) ≤ 612 ∧ (612 : Int) < 621) ∧ (zin ((v0 (Int.toNat 616)) - (v0 (Int.toNat (200 + (r1_ - 1))))) ∧ ((((v0 (Int.toNat 616)) - (v0 (Int.toNat (200 + (r1_ - 1))))) < (v0 (Int.toNat 612)) → (ZJ_M_isDue_41 x1 v0 Q)) ∧ (¬ ((v0 (Int.toNat 616)) - (v0 (Int.toNat (200 + (r1_ - 1))))) < (v0 (Int.toNat 612)) → (ZJ_M_isDue_42 x1 v0 1 Q)))))))))))
set_option maxRecDepth 100000 in
theorem z_M_isDue {x1 : Int32} {x1z : Int} {v0 : Nat → Int32} {v0z : (Nat → Int)}  {Q : Int32 → Prop} {Qz : (Int → Prop)} (e_x1 : x1.toInt = x1z) (e_v0 : (aA v0) = v0z) (h_Q : ∀ (a0 : Int32), Qz a0.toInt → Q a0) (h : Z_M_isDue x1z v0z Qz) : P_M_isDue x1 v0 Q := by
  subst e_x1
  subst e_v0
  unfold Z_M_isDue at h
  unfold P_M_isDue
  refine z_M_behind rfl rfl (fun r1_ h => ?_) h
  obtain ⟨i1q, h⟩ := h
  refine ⟨zt_in (show (612 : Int32).toInt = 612 from by decide) i1q, ?_⟩
  refine ⟨fun c9q => ?_, fun c9q => ?_⟩
  · have h := h.1 ((zt_le rfl rfl).mp c9q)
    refine zJ_M_isDue_41 rfl rfl h_Q h
  · have h := h.2 (fun k => c9q ((zt_le rfl rfl).mpr k))
    obtain ⟨i2q, h⟩ := h
    refine ⟨zt_in (show (616 : Int32).toInt = 616 from by decide) i2q, ?_⟩
    obtain ⟨o3q, h⟩ := h
    obtain ⟨o4q, h⟩ := h
    obtain ⟨i5q, h⟩ := h
    refine ⟨zt_in (show (((200 + (r1_ - 1)) : Int32)).toInt = ((200 + (r1_.toInt - 1)) : Int) from (zt_add rfl (show (((r1_ - 1) : Int32)).toInt = ((r1_.toInt - 1) : Int) from (zt_sub rfl rfl o3q)) o4q)) i5q, ?_⟩
    obtain ⟨i6q, h⟩ := h
    refine ⟨zt_in (show (612 : Int32).toInt = 612 from by decide) i6q, ?_⟩
    obtain ⟨o7q, h⟩ := h
    refine ⟨fun c8q => ?_, fun c8q => ?_⟩
    · have h := h.1 ((zt_lt (show ((((v0 (Int32.toNatClampNeg 616)) - (v0 (Int32.toNatClampNeg (200 + (r1_ - 1))))) : Int32)).toInt = ((((aA v0) (Int.toNat 616)) - ((aA v0) (Int.toNat (200 + (r1_.toInt - 1))))) : Int) from (zt_sub rfl (show (((v0 (Int32.toNatClampNeg (200 + (r1_ - 1)))) : Int32)).toInt = (((aA v0) (Int.toNat (200 + (r1_.toInt - 1)))) : Int) from (congrArg (fun k => (aA v0) k) (show (Int32.toNatClampNeg (200 + (r1_ - 1))) = (Int.toNat (200 + (r1_.toInt - 1))) from (congrArg Int.toNat (show (((200 + (r1_ - 1)) : Int32)).toInt = ((200 + (r1_.toInt - 1)) : Int) from (zt_add rfl (show (((r1_ - 1) : Int32)).toInt = ((r1_.toInt - 1) : Int) from (zt_sub rfl rfl o3q)) o4q)))))) o7q)) rfl).mp c8q)
      refine zJ_M_isDue_41 rfl rfl h_Q h
    · have h := h.2 (fun k => c8q ((zt_lt (show ((((v0 (Int32.toNatClampNeg 616)) - (v0 (Int32.toNatClampNeg (200 + (r1_ - 1))))) : Int32)).toInt = ((((aA v0) (Int.toNat 616)) - ((aA v0) (Int.toNat (200 + (r1_.toInt - 1))))) : Int) from (zt_sub rfl (show (((v0 (Int32.toNatClampNeg (200 + (r1_ - 1)))) : Int32)).toInt = (((aA v0) (Int.toNat (200 + (r1_.toInt - 1)))) : Int) from (congrArg (fun k => (aA v0) k) (show (Int32.toNatClampNeg (200 + (r1_ - 1))) = (Int.toNat (200 + (r1_.toInt - 1))) from (congrArg Int.toNat (show (((200 + (r1_ - 1)) : Int32)).toInt = ((200 + (r1_.toInt - 1)) : Int) from (zt_add rfl (show (((r1_ - 1) : Int32)).toInt = ((r1_.toInt - 1) : Int) from (zt_sub rfl rfl o3q)) o4q)))))) o7q)) rfl).mpr k))
      refine zJ_M_isDue_42 rfl rfl rfl h_Q h

def ZL_M_holders_4 : Nat → Int → (Nat → Int) → Int → Int → Int → (Int → Prop) → Prop
  | 0, _, _, _, _, _, _ => False
  | n + 1, x1, v0, y1, y2, y3, Q => ((8 ≤ y3 → (Q y2)) ∧ (¬ 8 ≤ y3 → (Z_M_reader y3 (fun r2_ => zin (r2_ + 0) ∧ ((0 : Int) ≤ (r2_ + 0) ∧ ((r2_ + 0) : Int) < 621) ∧ (((¬ (v0 (Int.toNat (r2_ + 0))) = 1 → zin (y2 + 0) ∧ zin (y3 + 1) ∧ (ZL_M_holders_4 n x1 v0 y1 (y2 + 0) (y3 + 1) Q)) ∧ ((v0 (Int.toNat (r2_ + 0))) = 1 → zin (r2_ + 2) ∧ ((0 : Int) ≤ (r2_ + 2) ∧ ((r2_ + 2) : Int) < 621) ∧ (((¬ (v0 (Int.toNat (r2_ + 2))) = 1 → zin (y2 + 0) ∧ zin (y3 + 1) ∧ (ZL_M_holders_4 n x1 v0 y1 (y2 + 0) (y3 + 1) Q)) ∧ ((v0 (Int.toNat (r2_ + 2))) = 1 → zin (r2_ + 1) ∧ ((0 : Int) ≤ (r2_ + 1) ∧ ((r2_ + 1) : Int) < 621) ∧ (((y1 < (v0 (Int.toNat (r2_ + 1))) → zin (y2 + 0) ∧ zin (y3 + 1) ∧ (ZL_M_holders_4 n x1 v0 y1 (y2 + 0) (y3 + 1) Q)) ∧ (¬ y1 < (v0 (Int.toNat (r2_ + 1))) → zin (y2 + 1) ∧ zin (y3 + 1) ∧ (ZL_M_holders_4 n x1 v0 y1 (y2 + 1) (y3 + 1) Q))))))))))))))
set_option maxRecDepth 100000 in
theorem zL_M_holders_4 (n : Nat) : ∀ {x1 : Int32} {x1z : Int} {v0 : Nat → Int32} {v0z : (Nat → Int)} {y1 : Int32} {y1z : Int} {y2 : Int32} {y2z : Int} {y3 : Int32} {y3z : Int}  {Q : Int32 → Prop} {Qz : (Int → Prop)} (e_x1 : x1.toInt = x1z) (e_v0 : (aA v0) = v0z) (e_y1 : y1.toInt = y1z) (e_y2 : y2.toInt = y2z) (e_y3 : y3.toInt = y3z) (h_Q : ∀ (a0 : Int32), Qz a0.toInt → Q a0) (h : ZL_M_holders_4 n x1z v0z y1z y2z y3z Qz), PL_M_holders_4 n x1 v0 y1 y2 y3 Q := by
  induction n with
  | zero =>
    intro x1 x1z v0 v0z y1 y1z y2 y2z y3 y3z Q Qz e_x1 e_v0 e_y1 e_y2 e_y3 h_Q h
    exact (h : False).elim
  | succ n ih =>
    intro x1 x1z v0 v0z y1 y1z y2 y2z y3 y3z Q Qz e_x1 e_v0 e_y1 e_y2 e_y3 h_Q h
    subst e_x1
    subst e_v0
    subst e_y1
    subst e_y2
    subst e_y3
    rw [ZL_M_holders_4] at h
    rw [PL_M_holders_4]
    refine ⟨fun c18q => ?_, fun c18q => ?_⟩
    · have h := h.1 ((zt_le rfl rfl).mp c18q)
      exact h_Q _ h
    · have h := h.2 (fun k => c18q ((zt_le rfl rfl).mpr k))
      refine z_M_reader rfl (fun r2_ h => ?_) h
      obtain ⟨o1q, h⟩ := h
      obtain ⟨i2q, h⟩ := h
      refine ⟨zt_in (show (((r2_ + 0) : Int32)).toInt = ((r2_.toInt + 0) : Int) from (zt_add rfl rfl o1q)) i2q, ?_⟩
      refine ⟨fun c17q => ?_, fun c17q => ?_⟩
      · have h := h.1 (fun k => c17q ((zt_eq (show (((v0 (Int32.toNatClampNeg (r2_ + 0))) : Int32)).toInt = (((aA v0) (Int.toNat (r2_.toInt + 0))) : Int) from (congrArg (fun k => (aA v0) k) (show (Int32.toNatClampNeg (r2_ + 0)) = (Int.toNat (r2_.toInt + 0)) from (congrArg Int.toNat (show (((r2_ + 0) : Int32)).toInt = ((r2_.toInt + 0) : Int) from (zt_add rfl rfl o1q)))))) rfl).mpr k))
        obtain ⟨o3q, h⟩ := h
        obtain ⟨o4q, h⟩ := h
        refine ih rfl rfl rfl (show (((y2 + 0) : Int32)).toInt = ((y2.toInt + 0) : Int) from (zt_add rfl rfl o3q)) (show (((y3 + 1) : Int32)).toInt = ((y3.toInt + 1) : Int) from (zt_add rfl rfl o4q)) h_Q h
      · have h := h.2 ((zt_eq (show (((v0 (Int32.toNatClampNeg (r2_ + 0))) : Int32)).toInt = (((aA v0) (Int.toNat (r2_.toInt + 0))) : Int) from (congrArg (fun k => (aA v0) k) (show (Int32.toNatClampNeg (r2_ + 0)) = (Int.toNat (r2_.toInt + 0)) from (congrArg Int.toNat (show (((r2_ + 0) : Int32)).toInt = ((r2_.toInt + 0) : Int) from (zt_add rfl rfl o1q)))))) rfl).mp c17q)
        obtain ⟨o5q, h⟩ := h
        obtain ⟨i6q, h⟩ := h
        refine ⟨zt_in (show (((r2_ + 2) : Int32)).toInt = ((r2_.toInt + 2) : Int) from (zt_add rfl rfl o5q)) i6q, ?_⟩
        refine ⟨fun c16q => ?_, fun c16q => ?_⟩
        · have h := h.1 (fun k => c16q ((zt_eq (show (((v0 (Int32.toNatClampNeg (r2_ + 2))) : Int32)).toInt = (((aA v0) (Int.toNat (r2_.toInt + 2))) : Int) from (congrArg (fun k => (aA v0) k) (show (Int32.toNatClampNeg (r2_ + 2)) = (Int.toNat (r2_.toInt + 2)) from (congrArg Int.toNat (show (((r2_ + 2) : Int32)).toInt = ((r2_.toInt + 2) : Int) from (zt_add rfl rfl o5q)))))) rfl).mpr k))
          obtain ⟨o7q, h⟩ := h
          obtain ⟨o8q, h⟩ := h
          refine ih rfl rfl rfl (show (((y2 + 0) : Int32)).toInt = ((y2.toInt + 0) : Int) from (zt_add rfl rfl o7q)) (show (((y3 + 1) : Int32)).toInt = ((y3.toInt + 1) : Int) from (zt_add rfl rfl o8q)) h_Q h
        · have h := h.2 ((zt_eq (show (((v0 (Int32.toNatClampNeg (r2_ + 2))) : Int32)).toInt = (((aA v0) (Int.toNat (r2_.toInt + 2))) : Int) from (congrArg (fun k => (aA v0) k) (show (Int32.toNatClampNeg (r2_ + 2)) = (Int.toNat (r2_.toInt + 2)) from (congrArg Int.toNat (show (((r2_ + 2) : Int32)).toInt = ((r2_.toInt + 2) : Int) from (zt_add rfl rfl o5q)))))) rfl).mp c16q)
          obtain ⟨o9q, h⟩ := h
          obtain ⟨i10q, h⟩ := h
          refine ⟨zt_in (show (((r2_ + 1) : Int32)).toInt = ((r2_.toInt + 1) : Int) from (zt_add rfl rfl o9q)) i10q, ?_⟩
          refine ⟨fun c15q => ?_, fun c15q => ?_⟩
          · have h := h.1 ((zt_lt rfl (show (((v0 (Int32.toNatClampNeg (r2_ + 1))) : Int32)).toInt = (((aA v0) (Int.toNat (r2_.toInt + 1))) : Int) from (congrArg (fun k => (aA v0) k) (show (Int32.toNatClampNeg (r2_ + 1)) = (Int.toNat (r2_.toInt + 1)) from (congrArg Int.toNat (show (((r2_ + 1) : Int32)).toInt = ((r2_.toInt + 1) : Int) from (zt_add rfl rfl o9q))))))).mp c15q)
            obtain ⟨o11q, h⟩ := h
            obtain ⟨o12q, h⟩ := h
            refine ih rfl rfl rfl (show (((y2 + 0) : Int32)).toInt = ((y2.toInt + 0) : Int) from (zt_add rfl rfl o11q)) (show (((y3 + 1) : Int32)).toInt = ((y3.toInt + 1) : Int) from (zt_add rfl rfl o12q)) h_Q h
          · have h := h.2 (fun k => c15q ((zt_lt rfl (show (((v0 (Int32.toNatClampNeg (r2_ + 1))) : Int32)).toInt = (((aA v0) (Int.toNat (r2_.toInt + 1))) : Int) from (congrArg (fun k => (aA v0) k) (show (Int32.toNatClampNeg (r2_ + 1)) = (Int.toNat (r2_.toInt + 1)) from (congrArg Int.toNat (show (((r2_ + 1) : Int32)).toInt = ((r2_.toInt + 1) : Int) from (zt_add rfl rfl o9q))))))).mpr k))
            obtain ⟨o13q, h⟩ := h
            obtain ⟨o14q, h⟩ := h
            refine ih rfl rfl rfl (show (((y2 + 1) : Int32)).toInt = ((y2.toInt + 1) : Int) from (zt_add rfl rfl o13q)) (show (((y3 + 1) : Int32)).toInt = ((y3.toInt + 1) : Int) from (zt_add rfl rfl o14q)) h_Q h
def Z_M_holders (x1 : Int) (v0 : (Nat → Int)) (Q : (Int → Prop)) : Prop := (∃ n12_, (ZL_M_holders_4 n12_ x1 v0 x1 0 0 Q))
set_option maxRecDepth 100000 in
theorem z_M_holders {x1 : Int32} {x1z : Int} {v0 : Nat → Int32} {v0z : (Nat → Int)}  {Q : Int32 → Prop} {Qz : (Int → Prop)} (e_x1 : x1.toInt = x1z) (e_v0 : (aA v0) = v0z) (h_Q : ∀ (a0 : Int32), Qz a0.toInt → Q a0) (h : Z_M_holders x1z v0z Qz) : P_M_holders x1 v0 Q := by
  subst e_x1
  subst e_v0
  unfold Z_M_holders at h
  unfold P_M_holders
  obtain ⟨n12_, h⟩ := h
  refine ⟨n12_, ?_⟩
  refine zL_M_holders_4 n12_ rfl rfl rfl rfl rfl h_Q h

def Z_M_isHeld (x1 : Int) (v0 : (Nat → Int)) (Q : (Int → Prop)) : Prop := (Z_M_behind x1 v0 (fun r1_ => zin (r1_ - 1) ∧ (Z_M_holders (r1_ - 1) v0 (fun r5_ => ((r5_ ≤ 0 → (Q 0)) ∧ (¬ r5_ ≤ 0 → (Q 1)))))))
set_option maxRecDepth 100000 in
theorem z_M_isHeld {x1 : Int32} {x1z : Int} {v0 : Nat → Int32} {v0z : (Nat → Int)}  {Q : Int32 → Prop} {Qz : (Int → Prop)} (e_x1 : x1.toInt = x1z) (e_v0 : (aA v0) = v0z) (h_Q : ∀ (a0 : Int32), Qz a0.toInt → Q a0) (h : Z_M_isHeld x1z v0z Qz) : P_M_isHeld x1 v0 Q := by
  subst e_x1
  subst e_v0
  unfold Z_M_isHeld at h
  unfold P_M_isHeld
  refine z_M_behind rfl rfl (fun r1_ h => ?_) h
  obtain ⟨o1q, h⟩ := h
  refine z_M_holders (show (((r1_ - 1) : Int32)).toInt = ((r1_.toInt - 1) : Int) from (zt_sub rfl rfl o1q)) rfl (fun r5_ h => ?_) h
  refine ⟨fun c2q => ?_, fun c2q => ?_⟩
  · have h := h.1 ((zt_le rfl rfl).mp c2q)
    exact h_Q _ h
  · have h := h.2 (fun k => c2q ((zt_le rfl rfl).mpr k))
    exact h_Q _ h

def Z_M_whyStays (v0 : (Nat → Int)) (Q : (Int → Prop)) : Prop := (Z_M_segments v0 (fun r1_ => ((2 ≤ r1_ → ((0 : Int) ≤ 400 ∧ (400 : Int) < 621) ∧ ((Z_M_isDue (v0 (Int.toNat 400)) v0 (fun r7_ => ((¬ r7_ = 0 → ((0 : Int) ≤ 400 ∧ (400 : Int) < 621) ∧ ((Z_M_isHeld (v0 (Int.toNat 400)) v0 (fun r13_ => ((r13_ = 0 → (Q 0)) ∧ (¬ r13_ = 0 → (Q 3))))))) ∧ (r7_ = 0 → (Q 2))))))) ∧ (¬ 2 ≤ r1_ → (Q 1)))))
set_option maxRecDepth 100000 in
theorem z_M_whyStays {v0 : Nat → Int32} {v0z : (Nat → Int)}  {Q : Int32 → Prop} {Qz : (Int → Prop)} (e_v0 : (aA v0) = v0z) (h_Q : ∀ (a0 : Int32), Qz a0.toInt → Q a0) (h : Z_M_whyStays v0z Qz) : P_M_whyStays v0 Q := by
  subst e_v0
  unfold Z_M_whyStays at h
  unfold P_M_whyStays
  refine z_M_segments rfl (fun r1_ h => ?_) h
  refine ⟨fun c5q => ?_, fun c5q => ?_⟩
  · have h := h.1 ((zt_le rfl rfl).mp c5q)
    obtain ⟨i1q, h⟩ := h
    refine ⟨zt_in (show (400 : Int32).toInt = 400 from by decide) i1q, ?_⟩
    refine z_M_isDue rfl rfl (fun r7_ h => ?_) h
    refine ⟨fun c4q => ?_, fun c4q => ?_⟩
    · have h := h.1 (fun k => c4q ((zt_eq rfl rfl).mpr k))
      obtain ⟨i2q, h⟩ := h
      refine ⟨zt_in (show (400 : Int32).toInt = 400 from by decide) i2q, ?_⟩
      refine z_M_isHeld rfl rfl (fun r13_ h => ?_) h
      refine ⟨fun c3q => ?_, fun c3q => ?_⟩
      · have h := h.1 ((zt_eq rfl rfl).mp c3q)
        exact h_Q _ h
      · have h := h.2 (fun k => c3q ((zt_eq rfl rfl).mpr k))
        exact h_Q _ h
    · have h := h.2 ((zt_eq rfl rfl).mp c4q)
      exact h_Q _ h
  · have h := h.2 (fun k => c5q ((zt_le rfl rfl).mpr k))
    exact h_Q _ h

def ZL_M_drop_16 : Nat → Int → Int → (Nat → Int) → ((Nat → Int) → Prop) → Prop
  | 0, _, _, _, _ => False
  | n + 1, y1, y2, v0, Q => ((y1 ≤ y2 → ((0 : Int) ≤ 400 ∧ (400 : Int) < 621) ∧ ((∀ v13_, v13_ = (updz v0 (Int.toNat 400) y1) → (((0 : Int) ≤ 617 ∧ (617 : Int) < 621) ∧ (((0 : Int) ≤ 617 ∧ (617 : Int) < 621) ∧ (zin ((v13_ (Int.toNat 617)) + 1) ∧ (∀ v22_, v22_ = (updz v13_ (Int.toNat 617) ((v13_ (Int.toNat 617)) + 1)) → ((Q v22_))))))))) ∧ (¬ y1 ≤ y2 → (Z_M_key y2 v0 (fun r25_ => (Z_M_value y2 v0 (fun r29_ => zin (402 + r25_) ∧ ((0 : Int) ≤ (402 + r25_) ∧ ((402 + r25_) : Int) < 621) ∧ ((∀ v38_, v38_ = (updz v0 (Int.toNat (402 + r25_)) r29_) → (zin (y2 + 1) ∧ (ZL_M_drop_16 n y1 (y2 + 1) v38_ Q))))))))))
set_option maxRecDepth 100000 in
theorem zL_M_drop_16 (n : Nat) : ∀ {y1 : Int32} {y1z : Int} {y2 : Int32} {y2z : Int} {v0 : Nat → Int32} {v0z : (Nat → Int)}  {Q : (Nat → Int32) → Prop} {Qz : ((Nat → Int) → Prop)} (e_y1 : y1.toInt = y1z) (e_y2 : y2.toInt = y2z) (e_v0 : (aA v0) = v0z) (h_Q : ∀ (a0 : Nat → Int32), Qz (aA a0) → Q a0) (h : ZL_M_drop_16 n y1z y2z v0z Qz), PL_M_drop_16 n y1 y2 v0 Q := by
  induction n with
  | zero =>
    intro y1 y1z y2 y2z v0 v0z Q Qz e_y1 e_y2 e_v0 h_Q h
    exact (h : False).elim
  | succ n ih =>
    intro y1 y1z y2 y2z v0 v0z Q Qz e_y1 e_y2 e_v0 h_Q h
    subst e_y1
    subst e_y2
    subst e_v0
    rw [ZL_M_drop_16] at h
    rw [PL_M_drop_16]
    refine ⟨fun c8q => ?_, fun c8q => ?_⟩
    · have h := h.1 ((zt_le rfl rfl).mp c8q)
      obtain ⟨i1q, h⟩ := h
      refine ⟨zt_in (show (400 : Int32).toInt = 400 from by decide) i1q, ?_⟩
      intro v13_ ev13_
      have h := h (aA v13_) (by rw [ev13_]; exact (show (aA (upd v0 (Int32.toNatClampNeg 400) y1)) = (updz (aA v0) (Int.toNat 400) y1.toInt) from (zt_upd rfl rfl rfl)))
      obtain ⟨i2q, h⟩ := h
      refine ⟨zt_in (show (617 : Int32).toInt = 617 from by decide) i2q, ?_⟩
      obtain ⟨i3q, h⟩ := h
      refine ⟨zt_in (show (617 : Int32).toInt = 617 from by decide) i3q, ?_⟩
      obtain ⟨o4q, h⟩ := h
      intro v22_ ev22_
      have h := h (aA v22_) (by rw [ev22_]; exact (show (aA (upd v13_ (Int32.toNatClampNeg 617) ((v13_ (Int32.toNatClampNeg 617)) + 1))) = (updz (aA v13_) (Int.toNat 617) (((aA v13_) (Int.toNat 617)) + 1)) from (zt_upd rfl rfl (show ((((v13_ (Int32.toNatClampNeg 617)) + 1) : Int32)).toInt = ((((aA v13_) (Int.toNat 617)) + 1) : Int) from (zt_add rfl rfl o4q)))))
      exact h_Q _ h
    · have h := h.2 (fun k => c8q ((zt_le rfl rfl).mpr k))
      refine z_M_key rfl rfl (fun r25_ h => ?_) h
      refine z_M_value rfl rfl (fun r29_ h => ?_) h
      obtain ⟨o5q, h⟩ := h
      obtain ⟨i6q, h⟩ := h
      refine ⟨zt_in (show (((402 + r25_) : Int32)).toInt = ((402 + r25_.toInt) : Int) from (zt_add rfl rfl o5q)) i6q, ?_⟩
      intro v38_ ev38_
      have h := h (aA v38_) (by rw [ev38_]; exact (show (aA (upd v0 (Int32.toNatClampNeg (402 + r25_)) r29_)) = (updz (aA v0) (Int.toNat (402 + r25_.toInt)) r29_.toInt) from (zt_upd rfl (show (Int32.toNatClampNeg (402 + r25_)) = (Int.toNat (402 + r25_.toInt)) from (congrArg Int.toNat (show (((402 + r25_) : Int32)).toInt = ((402 + r25_.toInt) : Int) from (zt_add rfl rfl o5q)))) rfl)))
      obtain ⟨o7q, h⟩ := h
      refine ih rfl (show (((y2 + 1) : Int32)).toInt = ((y2.toInt + 1) : Int) from (zt_add rfl rfl o7q)) rfl h_Q h
def Z_M_drop (v0 : (Nat → Int)) (Q : ((Nat → Int) → Prop)) : Prop := ((0 : Int) ≤ 400 ∧ (400 : Int) < 621) ∧ ((Z_M_behind (v0 (Int.toNat 400)) v0 (fun r2_ => ((0 : Int) ≤ 400 ∧ (400 : Int) < 621) ∧ ((∃ n41_, (ZL_M_drop_16 n41_ r2_ (v0 (Int.toNat 400)) v0 Q))))))
set_option maxRecDepth 100000 in
theorem z_M_drop {v0 : Nat → Int32} {v0z : (Nat → Int)}  {Q : (Nat → Int32) → Prop} {Qz : ((Nat → Int) → Prop)} (e_v0 : (aA v0) = v0z) (h_Q : ∀ (a0 : Nat → Int32), Qz (aA a0) → Q a0) (h : Z_M_drop v0z Qz) : P_M_drop v0 Q := by
  subst e_v0
  unfold Z_M_drop at h
  unfold P_M_drop
  obtain ⟨i1q, h⟩ := h
  refine ⟨zt_in (show (400 : Int32).toInt = 400 from by decide) i1q, ?_⟩
  refine z_M_behind rfl rfl (fun r2_ h => ?_) h
  obtain ⟨i2q, h⟩ := h
  refine ⟨zt_in (show (400 : Int32).toInt = 400 from by decide) i2q, ?_⟩
  obtain ⟨n41_, h⟩ := h
  refine ⟨n41_, ?_⟩
  refine zL_M_drop_16 n41_ rfl rfl rfl h_Q h

def ZL_M_told_15 : Nat → Int → Int → (Nat → Int) → Int → Int → Int → Int → (Int → Prop) → Prop
  | 0, _, _, _, _, _, _, _, _ => False
  | n + 1, x1, x2, v0, y1, y2, y3, y4, Q => ((y2 ≤ y4 → (Q y3)) ∧ (¬ y2 ≤ y4 → (Z_M_key y4 v0 (fun r4_ => ((¬ r4_ = y1 → zin (y4 + 1) ∧ (ZL_M_told_15 n x1 x2 v0 y1 y2 y3 (y4 + 1) Q)) ∧ (r4_ = y1 → (Z_M_value y4 v0 (fun r9_ => zin (y4 + 1) ∧ (ZL_M_told_15 n x1 x2 v0 y1 y2 r9_ (y4 + 1) Q)))))))))
set_option maxRecDepth 100000 in
theorem zL_M_told_15 (n : Nat) : ∀ {x1 : Int32} {x1z : Int} {x2 : Int32} {x2z : Int} {v0 : Nat → Int32} {v0z : (Nat → Int)} {y1 : Int32} {y1z : Int} {y2 : Int32} {y2z : Int} {y3 : Int32} {y3z : Int} {y4 : Int32} {y4z : Int}  {Q : Int32 → Prop} {Qz : (Int → Prop)} (e_x1 : x1.toInt = x1z) (e_x2 : x2.toInt = x2z) (e_v0 : (aA v0) = v0z) (e_y1 : y1.toInt = y1z) (e_y2 : y2.toInt = y2z) (e_y3 : y3.toInt = y3z) (e_y4 : y4.toInt = y4z) (h_Q : ∀ (a0 : Int32), Qz a0.toInt → Q a0) (h : ZL_M_told_15 n x1z x2z v0z y1z y2z y3z y4z Qz), PL_M_told_15 n x1 x2 v0 y1 y2 y3 y4 Q := by
  induction n with
  | zero =>
    intro x1 x1z x2 x2z v0 v0z y1 y1z y2 y2z y3 y3z y4 y4z Q Qz e_x1 e_x2 e_v0 e_y1 e_y2 e_y3 e_y4 h_Q h
    exact (h : False).elim
  | succ n ih =>
    intro x1 x1z x2 x2z v0 v0z y1 y1z y2 y2z y3 y3z y4 y4z Q Qz e_x1 e_x2 e_v0 e_y1 e_y2 e_y3 e_y4 h_Q h
    subst e_x1
    subst e_x2
    subst e_v0
    subst e_y1
    subst e_y2
    subst e_y3
    subst e_y4
    rw [ZL_M_told_15] at h
    rw [PL_M_told_15]
    refine ⟨fun c4q => ?_, fun c4q => ?_⟩
    · have h := h.1 ((zt_le rfl rfl).mp c4q)
      exact h_Q _ h
    · have h := h.2 (fun k => c4q ((zt_le rfl rfl).mpr k))
      refine z_M_key rfl rfl (fun r4_ h => ?_) h
      refine ⟨fun c3q => ?_, fun c3q => ?_⟩
      · have h := h.1 (fun k => c3q ((zt_eq rfl rfl).mpr k))
        obtain ⟨o1q, h⟩ := h
        refine ih rfl rfl rfl rfl rfl rfl (show (((y4 + 1) : Int32)).toInt = ((y4.toInt + 1) : Int) from (zt_add rfl rfl o1q)) h_Q h
      · have h := h.2 ((zt_eq rfl rfl).mp c3q)
        refine z_M_value rfl rfl (fun r9_ h => ?_) h
        obtain ⟨o2q, h⟩ := h
        refine ih rfl rfl rfl rfl rfl rfl (show (((y4 + 1) : Int32)).toInt = ((y4.toInt + 1) : Int) from (zt_add rfl rfl o2q)) h_Q h
def Z_M_told (x1 : Int) (x2 : Int) (v0 : (Nat → Int)) (Q : (Int → Prop)) : Prop := zin (402 + x1) ∧ ((0 : Int) ≤ (402 + x1) ∧ ((402 + x1) : Int) < 621) ∧ (((0 : Int) ≤ 400 ∧ (400 : Int) < 621) ∧ ((∃ n13_, (ZL_M_told_15 n13_ x1 x2 v0 x1 x2 (v0 (Int.toNat (402 + x1))) (v0 (Int.toNat 400)) Q))))
set_option maxRecDepth 100000 in
theorem z_M_told {x1 : Int32} {x1z : Int} {x2 : Int32} {x2z : Int} {v0 : Nat → Int32} {v0z : (Nat → Int)}  {Q : Int32 → Prop} {Qz : (Int → Prop)} (e_x1 : x1.toInt = x1z) (e_x2 : x2.toInt = x2z) (e_v0 : (aA v0) = v0z) (h_Q : ∀ (a0 : Int32), Qz a0.toInt → Q a0) (h : Z_M_told x1z x2z v0z Qz) : P_M_told x1 x2 v0 Q := by
  subst e_x1
  subst e_x2
  subst e_v0
  unfold Z_M_told at h
  unfold P_M_told
  obtain ⟨o1q, h⟩ := h
  obtain ⟨i2q, h⟩ := h
  refine ⟨zt_in (show (((402 + x1) : Int32)).toInt = ((402 + x1.toInt) : Int) from (zt_add rfl rfl o1q)) i2q, ?_⟩
  obtain ⟨i3q, h⟩ := h
  refine ⟨zt_in (show (400 : Int32).toInt = 400 from by decide) i3q, ?_⟩
  obtain ⟨n13_, h⟩ := h
  refine ⟨n13_, ?_⟩
  refine zL_M_told_15 n13_ rfl rfl rfl rfl rfl (show (((v0 (Int32.toNatClampNeg (402 + x1))) : Int32)).toInt = (((aA v0) (Int.toNat (402 + x1.toInt))) : Int) from (congrArg (fun k => (aA v0) k) (show (Int32.toNatClampNeg (402 + x1)) = (Int.toNat (402 + x1.toInt)) from (congrArg Int.toNat (show (((402 + x1) : Int32)).toInt = ((402 + x1.toInt) : Int) from (zt_add rfl rfl o1q)))))) rfl h_Q h

def ZJ_M_toldBack_28 (x1 : Int) (x2 : Int) (v0 : (Nat → Int)) (y1 : Int) (y3 : Int) (Q : (Int → Prop)) : Prop := ((0 : Int) ≤ 400 ∧ (400 : Int) < 621) ∧ (((y3 < (v0 (Int.toNat 400)) → zin (402 + y1) ∧ ((0 : Int) ≤ (402 + y1) ∧ ((402 + y1) : Int) < 621) ∧ ((Q (v0 (Int.toNat (402 + y1)))))) ∧ (¬ y3 < (v0 (Int.toNat 400)) → (Z_M_value y3 v0 (fun r6_ => (Q r6_))))))
set_option maxRecDepth 100000 in
theorem zJ_M_toldBack_28 {x1 : Int32} {x1z : Int} {x2 : Int32} {x2z : Int} {v0 : Nat → Int32} {v0z : (Nat → Int)} {y1 : Int32} {y1z : Int} {y3 : Int32} {y3z : Int}  {Q : Int32 → Prop} {Qz : (Int → Prop)} (e_x1 : x1.toInt = x1z) (e_x2 : x2.toInt = x2z) (e_v0 : (aA v0) = v0z) (e_y1 : y1.toInt = y1z) (e_y3 : y3.toInt = y3z) (h_Q : ∀ (a0 : Int32), Qz a0.toInt → Q a0) (h : ZJ_M_toldBack_28 x1z x2z v0z y1z y3z Qz) : PJ_M_toldBack_28 x1 x2 v0 y1 y3 Q := by
  subst e_x1
  subst e_x2
  subst e_v0
  subst e_y1
  subst e_y3
  unfold ZJ_M_toldBack_28 at h
  unfold PJ_M_toldBack_28
  obtain ⟨i1q, h⟩ := h
  refine ⟨zt_in (show (400 : Int32).toInt = 400 from by decide) i1q, ?_⟩
  refine ⟨fun c4q => ?_, fun c4q => ?_⟩
  · have h := h.1 ((zt_lt rfl rfl).mp c4q)
    obtain ⟨o2q, h⟩ := h
    obtain ⟨i3q, h⟩ := h
    refine ⟨zt_in (show (((402 + y1) : Int32)).toInt = ((402 + y1.toInt) : Int) from (zt_add rfl rfl o2q)) i3q, ?_⟩
    exact h_Q _ (Eq.mpr (congrArg (fun k => Qz k) (show (((v0 (Int32.toNatClampNeg (402 + y1))) : Int32)).toInt = (((aA v0) (Int.toNat (402 + y1.toInt))) : Int) from (congrArg (fun k => (aA v0) k) (show (Int32.toNatClampNeg (402 + y1)) = (Int.toNat (402 + y1.toInt)) from (congrArg Int.toNat (show (((402 + y1) : Int32)).toInt = ((402 + y1.toInt) : Int) from (zt_add rfl rfl o2q))))))) h)
  · have h := h.2 (fun k => c4q ((zt_lt rfl rfl).mpr k))
    refine z_M_value rfl rfl (fun r6_ h => ?_) h
    exact h_Q _ h
def ZL_M_toldBack_4 : Nat → Int → Int → (Nat → Int) → Int → Int → (Int → Prop) → Prop
  | 0, _, _, _, _, _, _ => False
  | n + 1, x1, x2, v0, y1, y3, Q => ((0 : Int) ≤ 400 ∧ (400 : Int) < 621) ∧ (((y3 < (v0 (Int.toNat 400)) → (ZJ_M_toldBack_28 x1 x2 v0 y1 y3 Q)) ∧ (¬ y3 < (v0 (Int.toNat 400)) → (Z_M_key y3 v0 (fun r10_ => ((r10_ = y1 → (ZJ_M_toldBack_28 x1 x2 v0 y1 y3 Q)) ∧ (¬ r10_ = y1 → zin (y3 + (-1)) ∧ (ZL_M_toldBack_4 n x1 x2 v0 y1 (y3 + (-1)) Q))))))))
set_option maxRecDepth 100000 in
theorem zL_M_toldBack_4 (n : Nat) : ∀ {x1 : Int32} {x1z : Int} {x2 : Int32} {x2z : Int} {v0 : Nat → Int32} {v0z : (Nat → Int)} {y1 : Int32} {y1z : Int} {y3 : Int32} {y3z : Int}  {Q : Int32 → Prop} {Qz : (Int → Prop)} (e_x1 : x1.toInt = x1z) (e_x2 : x2.toInt = x2z) (e_v0 : (aA v0) = v0z) (e_y1 : y1.toInt = y1z) (e_y3 : y3.toInt = y3z) (h_Q : ∀ (a0 : Int32), Qz a0.toInt → Q a0) (h : ZL_M_toldBack_4 n x1z x2z v0z y1z y3z Qz), PL_M_toldBack_4 n x1 x2 v0 y1 y3 Q := by
  induction n with
  | zero =>
    intro x1 x1z x2 x2z v0 v0z y1 y1z y3 y3z Q Qz e_x1 e_x2 e_v0 e_y1 e_y3 h_Q h
    exact (h : False).elim
  | succ n ih =>
    intro x1 x1z x2 x2z v0 v0z y1 y1z y3 y3z Q Qz e_x1 e_x2 e_v0 e_y1 e_y3 h_Q h
    subst e_x1
    subst e_x2
    subst e_v0
    subst e_y1
    subst e_y3
    rw [ZL_M_toldBack_4] at h
    rw [PL_M_toldBack_4]
    obtain ⟨i1q, h⟩ := h
    refine ⟨zt_in (show (400 : Int32).toInt = 400 from by decide) i1q, ?_⟩
    refine ⟨fun c4q => ?_, fun c4q => ?_⟩
    · have h := h.1 ((zt_lt rfl rfl).mp c4q)
      refine zJ_M_toldBack_28 rfl rfl rfl rfl rfl h_Q h
    · have h := h.2 (fun k => c4q ((zt_lt rfl rfl).mpr k))
      refine z_M_key rfl rfl (fun r10_ h => ?_) h
      refine ⟨fun c3q => ?_, fun c3q => ?_⟩
      · have h := h.1 ((zt_eq rfl rfl).mp c3q)
        refine zJ_M_toldBack_28 rfl rfl rfl rfl rfl h_Q h
      · have h := h.2 (fun k => c3q ((zt_eq rfl rfl).mpr k))
        obtain ⟨o2q, h⟩ := h
        refine ih rfl rfl rfl rfl (show (((y3 + (-1)) : Int32)).toInt = ((y3.toInt + (-1)) : Int) from (zt_add rfl rfl o2q)) h_Q h
def Z_M_toldBack (x1 : Int) (x2 : Int) (v0 : (Nat → Int)) (Q : (Int → Prop)) : Prop := (∃ n15_, zin (x2 - 1) ∧ (ZL_M_toldBack_4 n15_ x1 x2 v0 x1 (x2 - 1) Q))
set_option maxRecDepth 100000 in
theorem z_M_toldBack {x1 : Int32} {x1z : Int} {x2 : Int32} {x2z : Int} {v0 : Nat → Int32} {v0z : (Nat → Int)}  {Q : Int32 → Prop} {Qz : (Int → Prop)} (e_x1 : x1.toInt = x1z) (e_x2 : x2.toInt = x2z) (e_v0 : (aA v0) = v0z) (h_Q : ∀ (a0 : Int32), Qz a0.toInt → Q a0) (h : Z_M_toldBack x1z x2z v0z Qz) : P_M_toldBack x1 x2 v0 Q := by
  subst e_x1
  subst e_x2
  subst e_v0
  unfold Z_M_toldBack at h
  unfold P_M_toldBack
  obtain ⟨n15_, h⟩ := h
  refine ⟨n15_, ?_⟩
  obtain ⟨o1q, h⟩ := h
  refine zL_M_toldBack_4 n15_ rfl rfl rfl rfl (show (((x2 - 1) : Int32)).toInt = ((x2.toInt - 1) : Int) from (zt_sub rfl rfl o1q)) h_Q h

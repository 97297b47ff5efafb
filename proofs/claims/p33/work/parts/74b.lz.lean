def ZL_LAW_now_104 : Nat → TZ → Int → Int → Int → Int → (Int → Int → Prop) → (Int → Prop) → Prop
  | 0, _, _, _, _, _, _, _ => False
  | n + 1, v0, y1, y3, y4, y6, K78, Q => ((9 ≤ y6 → zin (y3 + 1) ∧ (K78 y1 (y3 + 1))) ∧ (¬ 9 ≤ y6 → (((lg_cmpZ y4 (-9000000000000000001)) = 0 → zin (y3 + 1) ∧ (K78 y1 (y3 + 1))) ∧ (¬ (lg_cmpZ y4 (-9000000000000000001)) = 0 → (Z_LAW_readerOf y3 y6 v0 (fun r11_ => zin (y6 - 1) ∧ (Z_LAW_table y3 (y6 - 1) v0 (fun r16_ => zin (y6 + 1) ∧ (ZL_LAW_now_104 n v0 (wl ((wl ((wl (31 * y1)) + r11_)) + (wl (89 * r16_)))) y3 y4 (y6 + 1) K78 Q)))))))))
set_option maxRecDepth 100000 in
theorem zL_LAW_now_104 (n : Nat) : ∀ {v0 : TT} {v0z : TZ} {y1 : Int64} {y1z : Int} {y3 : Int32} {y3z : Int} {y4 : Int64} {y4z : Int} {y6 : Int32} {y6z : Int}  {K78 : Int64 → Int32 → Prop} {K78z : (Int → Int → Prop)} {Q : Int64 → Prop} {Qz : (Int → Prop)} (e_v0 : (aT v0) = v0z) (e_y1 : y1.toInt = y1z) (e_y3 : y3.toInt = y3z) (e_y4 : y4.toInt = y4z) (e_y6 : y6.toInt = y6z) (h_K78 : ∀ (a0 : Int64) (a1 : Int32), K78z a0.toInt a1.toInt → K78 a0 a1) (h_Q : ∀ (a0 : Int64), Qz a0.toInt → Q a0) (h : ZL_LAW_now_104 n v0z y1z y3z y4z y6z K78z Qz), PL_LAW_now_104 n v0 y1 y3 y4 y6 K78 Q := by
  induction n with
  | zero =>
    intro v0 v0z y1 y1z y3 y3z y4 y4z y6 y6z K78 K78z Q Qz e_v0 e_y1 e_y3 e_y4 e_y6 h_K78 h_Q h
    exact (h : False).elim
  | succ n ih =>
    intro v0 v0z y1 y1z y3 y3z y4 y4z y6 y6z K78 K78z Q Qz e_v0 e_y1 e_y3 e_y4 e_y6 h_K78 h_Q h
    subst e_v0
    subst e_y1
    subst e_y3
    subst e_y4
    subst e_y6
    rw [ZL_LAW_now_104] at h
    rw [PL_LAW_now_104]
    refine ⟨fun c6q => ?_, fun c6q => ?_⟩
    · have h := h.1 ((zt_le rfl rfl).mp c6q)
      obtain ⟨o1q, h⟩ := h
      exact h_K78 _ _ (Eq.mpr (congrArg (fun k => K78z y1.toInt k) (show (((y3 + 1) : Int32)).toInt = ((y3.toInt + 1) : Int) from (zt_add rfl rfl o1q))) h)
    · have h := h.2 (fun k => c6q ((zt_le rfl rfl).mpr k))
      refine ⟨fun c5q => ?_, fun c5q => ?_⟩
      · have h := h.1 ((zt_eq (show (((lg_cmp y4 (-9000000000000000001)) : Int32)).toInt = ((lg_cmpZ y4.toInt (-9000000000000000001)) : Int) from (zt_lg_cmp rfl rfl)) rfl).mp c5q)
        obtain ⟨o2q, h⟩ := h
        exact h_K78 _ _ (Eq.mpr (congrArg (fun k => K78z y1.toInt k) (show (((y3 + 1) : Int32)).toInt = ((y3.toInt + 1) : Int) from (zt_add rfl rfl o2q))) h)
      · have h := h.2 (fun k => c5q ((zt_eq (show (((lg_cmp y4 (-9000000000000000001)) : Int32)).toInt = ((lg_cmpZ y4.toInt (-9000000000000000001)) : Int) from (zt_lg_cmp rfl rfl)) rfl).mpr k))
        refine z_LAW_readerOf rfl rfl rfl (fun r11_ h => ?_) h
        obtain ⟨o3q, h⟩ := h
        refine z_LAW_table rfl (show (((y6 - 1) : Int32)).toInt = ((y6.toInt - 1) : Int) from (zt_sub rfl rfl o3q)) rfl (fun r16_ h => ?_) h
        obtain ⟨o4q, h⟩ := h
        refine ih rfl (show (((31 * y1) + r11_) + (89 * r16_)).toInt = ((wl ((wl ((wl (31 * y1.toInt)) + r11_.toInt)) + (wl (89 * r16_.toInt)))) : Int) from (zt_ladd (show ((31 * y1) + r11_).toInt = ((wl ((wl (31 * y1.toInt)) + r11_.toInt)) : Int) from (zt_ladd (show (31 * y1).toInt = ((wl (31 * y1.toInt)) : Int) from (zt_lmul rfl rfl)) rfl)) (show (89 * r16_).toInt = ((wl (89 * r16_.toInt)) : Int) from (zt_lmul rfl rfl)))) rfl rfl (show (((y6 + 1) : Int32)).toInt = ((y6.toInt + 1) : Int) from (zt_add rfl rfl o4q)) h_K78 h_Q h
def ZL_LAW_now_78 : Nat → TZ → Int → Int → (Int → Prop) → Prop
  | 0, _, _, _, _ => False
  | n + 1, v0, y1, y3, Q => ((8 ≤ y3 → (Q y1)) ∧ (¬ 8 ≤ y3 → (Z_LAW_readerOf y3 0 v0 (fun r4_ => (∃ n21_, n21_ ≤ 9 ∧ ((ZL_LAW_now_104 n21_ v0 (wl ((wl (31 * y1)) + r4_)) y3 r4_ 1 (fun a0 a1 => (ZL_LAW_now_78 n v0 a0 a1 Q)) Q)))))))
set_option maxRecDepth 100000 in
theorem zL_LAW_now_78 (n : Nat) : ∀ {v0 : TT} {v0z : TZ} {y1 : Int64} {y1z : Int} {y3 : Int32} {y3z : Int}  {Q : Int64 → Prop} {Qz : (Int → Prop)} (e_v0 : (aT v0) = v0z) (e_y1 : y1.toInt = y1z) (e_y3 : y3.toInt = y3z) (h_Q : ∀ (a0 : Int64), Qz a0.toInt → Q a0) (h : ZL_LAW_now_78 n v0z y1z y3z Qz), PL_LAW_now_78 n v0 y1 y3 Q := by
  induction n with
  | zero =>
    intro v0 v0z y1 y1z y3 y3z Q Qz e_v0 e_y1 e_y3 h_Q h
    exact (h : False).elim
  | succ n ih =>
    intro v0 v0z y1 y1z y3 y3z Q Qz e_v0 e_y1 e_y3 h_Q h
    subst e_v0
    subst e_y1
    subst e_y3
    rw [ZL_LAW_now_78] at h
    rw [PL_LAW_now_78]
    refine ⟨fun c2q => ?_, fun c2q => ?_⟩
    · have h := h.1 ((zt_le rfl rfl).mp c2q)
      exact h_Q _ h
    · have h := h.2 (fun k => c2q ((zt_le rfl rfl).mpr k))
      refine z_LAW_readerOf rfl rfl rfl (fun r4_ h => ?_) h
      obtain ⟨n21_, h⟩ := h
      refine ⟨n21_, ?_⟩
      obtain ⟨b1q, h⟩ := h
      refine ⟨b1q, ?_⟩
      refine zL_LAW_now_104 n21_ rfl (show ((31 * y1) + r4_).toInt = ((wl ((wl (31 * y1.toInt)) + r4_.toInt)) : Int) from (zt_ladd (show (31 * y1).toInt = ((wl (31 * y1.toInt)) : Int) from (zt_lmul rfl rfl)) rfl)) rfl rfl rfl (fun a0 a1 h => ?_) h_Q h
      refine ih rfl rfl rfl h_Q h
def ZL_LAW_now_32 : Nat → TZ → Int → Int → (Int → Prop) → Prop
  | 0, _, _, _, _ => False
  | n + 1, v0, y1, y3, Q => ((8 ≤ y3 → (∃ n22_, n22_ ≤ 9 ∧ ((ZL_LAW_now_78 n22_ v0 y1 0 Q)))) ∧ (¬ 8 ≤ y3 → (Z_LAW_base y3 v0 (fun r23_ => ((6 ≤ y3 → zin (y3 + 1) ∧ (ZL_LAW_now_32 n v0 (wl ((wl ((wl (31 * y1)) + r23_)) + 0)) (y3 + 1) Q)) ∧ (¬ 6 ≤ y3 → (Z_LAW_setting y3 v0 (fun r29_ => zin (y3 + 1) ∧ (ZL_LAW_now_32 n v0 (wl ((wl ((wl (31 * y1)) + r23_)) + (wl (97 * r29_)))) (y3 + 1) Q)))))))))
set_option maxRecDepth 100000 in
theorem zL_LAW_now_32 (n : Nat) : ∀ {v0 : TT} {v0z : TZ} {y1 : Int64} {y1z : Int} {y3 : Int32} {y3z : Int}  {Q : Int64 → Prop} {Qz : (Int → Prop)} (e_v0 : (aT v0) = v0z) (e_y1 : y1.toInt = y1z) (e_y3 : y3.toInt = y3z) (h_Q : ∀ (a0 : Int64), Qz a0.toInt → Q a0) (h : ZL_LAW_now_32 n v0z y1z y3z Qz), PL_LAW_now_32 n v0 y1 y3 Q := by
  induction n with
  | zero =>
    intro v0 v0z y1 y1z y3 y3z Q Qz e_v0 e_y1 e_y3 h_Q h
    exact (h : False).elim
  | succ n ih =>
    intro v0 v0z y1 y1z y3 y3z Q Qz e_v0 e_y1 e_y3 h_Q h
    subst e_v0
    subst e_y1
    subst e_y3
    rw [ZL_LAW_now_32] at h
    rw [PL_LAW_now_32]
    refine ⟨fun c5q => ?_, fun c5q => ?_⟩
    · have h := h.1 ((zt_le rfl rfl).mp c5q)
      obtain ⟨n22_, h⟩ := h
      refine ⟨n22_, ?_⟩
      obtain ⟨b1q, h⟩ := h
      refine ⟨b1q, ?_⟩
      refine zL_LAW_now_78 n22_ rfl rfl rfl h_Q h
    · have h := h.2 (fun k => c5q ((zt_le rfl rfl).mpr k))
      refine z_LAW_base rfl rfl (fun r23_ h => ?_) h
      refine ⟨fun c4q => ?_, fun c4q => ?_⟩
      · have h := h.1 ((zt_le rfl rfl).mp c4q)
        obtain ⟨o2q, h⟩ := h
        refine ih rfl (show (((31 * y1) + r23_) + 0).toInt = ((wl ((wl ((wl (31 * y1.toInt)) + r23_.toInt)) + 0)) : Int) from (zt_ladd (show ((31 * y1) + r23_).toInt = ((wl ((wl (31 * y1.toInt)) + r23_.toInt)) : Int) from (zt_ladd (show (31 * y1).toInt = ((wl (31 * y1.toInt)) : Int) from (zt_lmul rfl rfl)) rfl)) rfl)) (show (((y3 + 1) : Int32)).toInt = ((y3.toInt + 1) : Int) from (zt_add rfl rfl o2q)) h_Q h
      · have h := h.2 (fun k => c4q ((zt_le rfl rfl).mpr k))
        refine z_LAW_setting rfl rfl (fun r29_ h => ?_) h
        obtain ⟨o3q, h⟩ := h
        refine ih rfl (show (((31 * y1) + r23_) + (97 * r29_)).toInt = ((wl ((wl ((wl (31 * y1.toInt)) + r23_.toInt)) + (wl (97 * r29_.toInt)))) : Int) from (zt_ladd (show ((31 * y1) + r23_).toInt = ((wl ((wl (31 * y1.toInt)) + r23_.toInt)) : Int) from (zt_ladd (show (31 * y1).toInt = ((wl (31 * y1.toInt)) : Int) from (zt_lmul rfl rfl)) rfl)) (show (97 * r29_).toInt = ((wl (97 * r29_.toInt)) : Int) from (zt_lmul rfl rfl)))) (show (((y3 + 1) : Int32)).toInt = ((y3.toInt + 1) : Int) from (zt_add rfl rfl o3q)) h_Q h
def ZL_LAW_now_6 : Nat → TZ → Int → Int → (Int → Prop) → Prop
  | 0, _, _, _, _ => False
  | n + 1, v0, y1, y3, Q => ((12 ≤ y3 → (∃ n34_, n34_ ≤ 9 ∧ ((ZL_LAW_now_32 n34_ v0 y1 0 Q)))) ∧ (¬ 12 ≤ y3 → (Z_LAW_about y3 v0 (fun r35_ => zin (y3 + 1) ∧ (ZL_LAW_now_6 n v0 (wl ((wl (31 * y1)) + r35_)) (y3 + 1) Q)))))
set_option maxRecDepth 100000 in
theorem zL_LAW_now_6 (n : Nat) : ∀ {v0 : TT} {v0z : TZ} {y1 : Int64} {y1z : Int} {y3 : Int32} {y3z : Int}  {Q : Int64 → Prop} {Qz : (Int → Prop)} (e_v0 : (aT v0) = v0z) (e_y1 : y1.toInt = y1z) (e_y3 : y3.toInt = y3z) (h_Q : ∀ (a0 : Int64), Qz a0.toInt → Q a0) (h : ZL_LAW_now_6 n v0z y1z y3z Qz), PL_LAW_now_6 n v0 y1 y3 Q := by
  induction n with
  | zero =>
    intro v0 v0z y1 y1z y3 y3z Q Qz e_v0 e_y1 e_y3 h_Q h
    exact (h : False).elim
  | succ n ih =>
    intro v0 v0z y1 y1z y3 y3z Q Qz e_v0 e_y1 e_y3 h_Q h
    subst e_v0
    subst e_y1
    subst e_y3
    rw [ZL_LAW_now_6] at h
    rw [PL_LAW_now_6]
    refine ⟨fun c3q => ?_, fun c3q => ?_⟩
    · have h := h.1 ((zt_le rfl rfl).mp c3q)
      obtain ⟨n34_, h⟩ := h
      refine ⟨n34_, ?_⟩
      obtain ⟨b1q, h⟩ := h
      refine ⟨b1q, ?_⟩
      refine zL_LAW_now_32 n34_ rfl rfl rfl h_Q h
    · have h := h.2 (fun k => c3q ((zt_le rfl rfl).mpr k))
      refine z_LAW_about rfl rfl (fun r35_ h => ?_) h
      obtain ⟨o2q, h⟩ := h
      refine ih rfl (show ((31 * y1) + r35_).toInt = ((wl ((wl (31 * y1.toInt)) + r35_.toInt)) : Int) from (zt_ladd (show (31 * y1).toInt = ((wl (31 * y1.toInt)) : Int) from (zt_lmul rfl rfl)) rfl)) (show (((y3 + 1) : Int32)).toInt = ((y3.toInt + 1) : Int) from (zt_add rfl rfl o2q)) h_Q h
def Z_LAW_now (v0 : TZ) (Q : (Int → Prop)) : Prop := (∃ n40_, n40_ ≤ 13 ∧ ((ZL_LAW_now_6 n40_ v0 131 0 Q)))
set_option maxRecDepth 100000 in
theorem z_LAW_now {v0 : TT} {v0z : TZ}  {Q : Int64 → Prop} {Qz : (Int → Prop)} (e_v0 : (aT v0) = v0z) (h_Q : ∀ (a0 : Int64), Qz a0.toInt → Q a0) (h : Z_LAW_now v0z Qz) : P_LAW_now v0 Q := by
  subst e_v0
  unfold Z_LAW_now at h
  unfold P_LAW_now
  obtain ⟨n40_, h⟩ := h
  refine ⟨n40_, ?_⟩
  obtain ⟨b1q, h⟩ := h
  refine ⟨b1q, ?_⟩
  refine zL_LAW_now_6 n40_ rfl rfl rfl h_Q h

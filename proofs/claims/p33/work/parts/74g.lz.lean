def ZJ_LAW_told_228 (x1 : Int) (y1 : Int) (y2 : Int) (v0 : TZ) (Q : (Int → TZ → Prop)) : Prop := ((y2 = 0 → (Q 0 v0)) ∧ (¬ y2 = 0 → zin (48 + (Int.tmod y1 10)) ∧ (Z_LAW_says 115 51 48 (48 + (Int.tmod y1 10)) v0 (fun r12_ v17_ => ((r12_ = 0 → (Q 0 v17_)) ∧ (¬ r12_ = 0 → zin (48 + (Int.tmod (Int.tdiv y1 2) 10)) ∧ zin (48 + (Int.tmod y1 8)) ∧ (Z_LAW_says (48 + (Int.tmod (Int.tdiv y1 2) 10)) 48 108 (48 + (Int.tmod y1 8)) v17_ (fun r22_ v27_ => ((r22_ = 0 → (Q 0 v27_)) ∧ (¬ r22_ = 0 → (Z_T_errorPosition v27_ (fun r32_ v36_ => ((¬ r32_ = (-1) → (Q 0 v36_)) ∧ (r32_ = (-1) → (Q 1 v36_)))))))))))))))
set_option maxRecDepth 100000 in
theorem zJ_LAW_told_228 {x1 : Int32} {x1z : Int} {y1 : Int32} {y1z : Int} {y2 : Int32} {y2z : Int} {v0 : TT} {v0z : TZ}  {Q : Int32 → TT → Prop} {Qz : (Int → TZ → Prop)} (e_x1 : x1.toInt = x1z) (e_y1 : y1.toInt = y1z) (e_y2 : y2.toInt = y2z) (e_v0 : (aT v0) = v0z) (h_Q : ∀ (a0 : Int32) (a1 : TT), Qz a0.toInt (aT a1) → Q a0 a1) (h : ZJ_LAW_told_228 x1z y1z y2z v0z Qz) : PJ_LAW_told_228 x1 y1 y2 v0 Q := by
  subst e_x1
  subst e_y1
  subst e_y2
  subst e_v0
  unfold ZJ_LAW_told_228 at h
  unfold PJ_LAW_told_228
  refine ⟨fun c7q => ?_, fun c7q => ?_⟩
  · have h := h.1 ((zt_eq rfl rfl).mp c7q)
    exact h_Q _ _ h
  · have h := h.2 (fun k => c7q ((zt_eq rfl rfl).mpr k))
    obtain ⟨o1q, h⟩ := h
    refine z_LAW_says rfl rfl rfl (show (((48 + (zrem y1 10)) : Int32)).toInt = ((48 + (Int.tmod y1.toInt 10)) : Int) from (zt_add rfl (show (((zrem y1 10) : Int32)).toInt = ((Int.tmod y1.toInt 10) : Int) from (zt_rem rfl rfl (by decide) (by decide))) o1q)) rfl (fun r12_ v17_ h => ?_) h
    refine ⟨fun c6q => ?_, fun c6q => ?_⟩
    · have h := h.1 ((zt_eq rfl rfl).mp c6q)
      exact h_Q _ _ h
    · have h := h.2 (fun k => c6q ((zt_eq rfl rfl).mpr k))
      obtain ⟨o2q, h⟩ := h
      obtain ⟨o3q, h⟩ := h
      refine z_LAW_says (show (((48 + (zrem (y1 / 2) 10)) : Int32)).toInt = ((48 + (Int.tmod (Int.tdiv y1.toInt 2) 10)) : Int) from (zt_add rfl (show (((zrem (y1 / 2) 10) : Int32)).toInt = ((Int.tmod (Int.tdiv y1.toInt 2) 10) : Int) from (zt_rem (show (((y1 / 2) : Int32)).toInt = ((Int.tdiv y1.toInt 2) : Int) from (zt_div rfl rfl (by decide))) rfl (by decide) (by decide))) o2q)) rfl rfl (show (((48 + (zrem y1 8)) : Int32)).toInt = ((48 + (Int.tmod y1.toInt 8)) : Int) from (zt_add rfl (show (((zrem y1 8) : Int32)).toInt = ((Int.tmod y1.toInt 8) : Int) from (zt_rem rfl rfl (by decide) (by decide))) o3q)) rfl (fun r22_ v27_ h => ?_) h
      refine ⟨fun c5q => ?_, fun c5q => ?_⟩
      · have h := h.1 ((zt_eq rfl rfl).mp c5q)
        exact h_Q _ _ h
      · have h := h.2 (fun k => c5q ((zt_eq rfl rfl).mpr k))
        refine z_T_errorPosition rfl (fun r32_ v36_ h => ?_) h
        refine ⟨fun c4q => ?_, fun c4q => ?_⟩
        · have h := h.1 (fun k => c4q ((zt_eq rfl rfl).mpr k))
          exact h_Q _ _ h
        · have h := h.2 ((zt_eq rfl rfl).mp c4q)
          exact h_Q _ _ h
def ZJ_LAW_told_133 (x1 : Int) (y1 : Int) (y3 : Int) (y4 : Int) (u0 : Int) (u1 : Int) (v0 : TZ) (K26 : (Int → Int → Int → TZ → Prop)) (Q : (Int → TZ → Prop)) : Prop := zin (48 + (Int.tmod y4 8)) ∧ (Z_LAW_says u1 u0 114 (48 + (Int.tmod y4 8)) v0 (fun r63_ v68_ => ((r63_ = 0 → zin (y3 + 1) ∧ (K26 y1 0 (y3 + 1) v68_)) ∧ (¬ r63_ = 0 → zin (48 + (Int.tmod y4 5)) ∧ zin (49 + (Int.tmod y4 9)) ∧ (Z_LAW_says (48 + (Int.tmod y4 5)) (49 + (Int.tmod y4 9)) 116 48 v68_ (fun r73_ v78_ => ((r73_ = 0 → zin (y3 + 1) ∧ (K26 y1 0 (y3 + 1) v78_)) ∧ (¬ r73_ = 0 → ((¬ (Int.tmod y4 3) = 0 → zin (48 + (Int.tmod (Int.tdiv y4 2) 8)) ∧ (Z_LAW_says (49 + (Int.tmod y4 9)) 104 (48 + (Int.tmod (Int.tdiv y4 2) 8)) 43 v78_ (fun r84_ v89_ => ((r84_ = 0 → zin (y3 + 1) ∧ (K26 y1 0 (y3 + 1) v89_)) ∧ (¬ r84_ = 0 → zin (y3 + 1) ∧ (K26 y1 1 (y3 + 1) v89_)))))) ∧ ((Int.tmod y4 3) = 0 → zin (48 + (Int.tmod (Int.tdiv y4 2) 8)) ∧ (Z_LAW_says (49 + (Int.tmod y4 9)) 104 (48 + (Int.tmod (Int.tdiv y4 2) 8)) 45 v78_ (fun r94_ v99_ => ((r94_ = 0 → zin (y3 + 1) ∧ (K26 y1 0 (y3 + 1) v99_)) ∧ (¬ r94_ = 0 → zin (y3 + 1) ∧ (K26 y1 1 (y3 + 1) v99_)))))))))))))))
set_option maxRecDepth 100000 in
theorem zJ_LAW_told_133 {x1 : Int32} {x1z : Int} {y1 : Int32} {y1z : Int} {y3 : Int32} {y3z : Int} {y4 : Int32} {y4z : Int} {u0 : Int32} {u0z : Int} {u1 : Int32} {u1z : Int} {v0 : TT} {v0z : TZ}  {K26 : Int32 → Int32 → Int32 → TT → Prop} {K26z : (Int → Int → Int → TZ → Prop)} {Q : Int32 → TT → Prop} {Qz : (Int → TZ → Prop)} (e_x1 : x1.toInt = x1z) (e_y1 : y1.toInt = y1z) (e_y3 : y3.toInt = y3z) (e_y4 : y4.toInt = y4z) (e_u0 : u0.toInt = u0z) (e_u1 : u1.toInt = u1z) (e_v0 : (aT v0) = v0z) (h_K26 : ∀ (a0 : Int32) (a1 : Int32) (a2 : Int32) (a3 : TT), K26z a0.toInt a1.toInt a2.toInt (aT a3) → K26 a0 a1 a2 a3) (h_Q : ∀ (a0 : Int32) (a1 : TT), Qz a0.toInt (aT a1) → Q a0 a1) (h : ZJ_LAW_told_133 x1z y1z y3z y4z u0z u1z v0z K26z Qz) : PJ_LAW_told_133 x1 y1 y3 y4 u0 u1 v0 K26 Q := by
  subst e_x1
  subst e_y1
  subst e_y3
  subst e_y4
  subst e_u0
  subst e_u1
  subst e_v0
  unfold ZJ_LAW_told_133 at h
  unfold PJ_LAW_told_133
  obtain ⟨o1q, h⟩ := h
  refine z_LAW_says rfl rfl rfl (show (((48 + (zrem y4 8)) : Int32)).toInt = ((48 + (Int.tmod y4.toInt 8)) : Int) from (zt_add rfl (show (((zrem y4 8) : Int32)).toInt = ((Int.tmod y4.toInt 8) : Int) from (zt_rem rfl rfl (by decide) (by decide))) o1q)) rfl (fun r63_ v68_ h => ?_) h
  refine ⟨fun c16q => ?_, fun c16q => ?_⟩
  · have h := h.1 ((zt_eq rfl rfl).mp c16q)
    obtain ⟨o2q, h⟩ := h
    exact h_K26 _ _ _ _ (Eq.mpr (congrArg (fun k => K26z y1.toInt 0 k (aT v68_)) (show (((y3 + 1) : Int32)).toInt = ((y3.toInt + 1) : Int) from (zt_add rfl rfl o2q))) h)
  · have h := h.2 (fun k => c16q ((zt_eq rfl rfl).mpr k))
    obtain ⟨o3q, h⟩ := h
    obtain ⟨o4q, h⟩ := h
    refine z_LAW_says (show (((48 + (zrem y4 5)) : Int32)).toInt = ((48 + (Int.tmod y4.toInt 5)) : Int) from (zt_add rfl (show (((zrem y4 5) : Int32)).toInt = ((Int.tmod y4.toInt 5) : Int) from (zt_rem rfl rfl (by decide) (by decide))) o3q)) (show (((49 + (zrem y4 9)) : Int32)).toInt = ((49 + (Int.tmod y4.toInt 9)) : Int) from (zt_add rfl (show (((zrem y4 9) : Int32)).toInt = ((Int.tmod y4.toInt 9) : Int) from (zt_rem rfl rfl (by decide) (by decide))) o4q)) rfl rfl rfl (fun r73_ v78_ h => ?_) h
    refine ⟨fun c15q => ?_, fun c15q => ?_⟩
    · have h := h.1 ((zt_eq rfl rfl).mp c15q)
      obtain ⟨o5q, h⟩ := h
      exact h_K26 _ _ _ _ (Eq.mpr (congrArg (fun k => K26z y1.toInt 0 k (aT v78_)) (show (((y3 + 1) : Int32)).toInt = ((y3.toInt + 1) : Int) from (zt_add rfl rfl o5q))) h)
    · have h := h.2 (fun k => c15q ((zt_eq rfl rfl).mpr k))
      refine ⟨fun c14q => ?_, fun c14q => ?_⟩
      · have h := h.1 (fun k => c14q ((zt_eq (show (((zrem y4 3) : Int32)).toInt = ((Int.tmod y4.toInt 3) : Int) from (zt_rem rfl rfl (by decide) (by decide))) rfl).mpr k))
        obtain ⟨o6q, h⟩ := h
        refine z_LAW_says (show (((49 + (zrem y4 9)) : Int32)).toInt = ((49 + (Int.tmod y4.toInt 9)) : Int) from (zt_add rfl (show (((zrem y4 9) : Int32)).toInt = ((Int.tmod y4.toInt 9) : Int) from (zt_rem rfl rfl (by decide) (by decide))) o4q)) rfl (show (((48 + (zrem (y4 / 2) 8)) : Int32)).toInt = ((48 + (Int.tmod (Int.tdiv y4.toInt 2) 8)) : Int) from (zt_add rfl (show (((zrem (y4 / 2) 8) : Int32)).toInt = ((Int.tmod (Int.tdiv y4.toInt 2) 8) : Int) from (zt_rem (show (((y4 / 2) : Int32)).toInt = ((Int.tdiv y4.toInt 2) : Int) from (zt_div rfl rfl (by decide))) rfl (by decide) (by decide))) o6q)) rfl rfl (fun r84_ v89_ h => ?_) h
        refine ⟨fun c9q => ?_, fun c9q => ?_⟩
        · have h := h.1 ((zt_eq rfl rfl).mp c9q)
          obtain ⟨o7q, h⟩ := h
          exact h_K26 _ _ _ _ (Eq.mpr (congrArg (fun k => K26z y1.toInt 0 k (aT v89_)) (show (((y3 + 1) : Int32)).toInt = ((y3.toInt + 1) : Int) from (zt_add rfl rfl o7q))) h)
        · have h := h.2 (fun k => c9q ((zt_eq rfl rfl).mpr k))
          obtain ⟨o8q, h⟩ := h
          exact h_K26 _ _ _ _ (Eq.mpr (congrArg (fun k => K26z y1.toInt 1 k (aT v89_)) (show (((y3 + 1) : Int32)).toInt = ((y3.toInt + 1) : Int) from (zt_add rfl rfl o8q))) h)
      · have h := h.2 ((zt_eq (show (((zrem y4 3) : Int32)).toInt = ((Int.tmod y4.toInt 3) : Int) from (zt_rem rfl rfl (by decide) (by decide))) rfl).mp c14q)
        obtain ⟨o10q, h⟩ := h
        refine z_LAW_says (show (((49 + (zrem y4 9)) : Int32)).toInt = ((49 + (Int.tmod y4.toInt 9)) : Int) from (zt_add rfl (show (((zrem y4 9) : Int32)).toInt = ((Int.tmod y4.toInt 9) : Int) from (zt_rem rfl rfl (by decide) (by decide))) o4q)) rfl (show (((48 + (zrem (y4 / 2) 8)) : Int32)).toInt = ((48 + (Int.tmod (Int.tdiv y4.toInt 2) 8)) : Int) from (zt_add rfl (show (((zrem (y4 / 2) 8) : Int32)).toInt = ((Int.tmod (Int.tdiv y4.toInt 2) 8) : Int) from (zt_rem (show (((y4 / 2) : Int32)).toInt = ((Int.tdiv y4.toInt 2) : Int) from (zt_div rfl rfl (by decide))) rfl (by decide) (by decide))) o10q)) rfl rfl (fun r94_ v99_ h => ?_) h
        refine ⟨fun c13q => ?_, fun c13q => ?_⟩
        · have h := h.1 ((zt_eq rfl rfl).mp c13q)
          obtain ⟨o11q, h⟩ := h
          exact h_K26 _ _ _ _ (Eq.mpr (congrArg (fun k => K26z y1.toInt 0 k (aT v99_)) (show (((y3 + 1) : Int32)).toInt = ((y3.toInt + 1) : Int) from (zt_add rfl rfl o11q))) h)
        · have h := h.2 (fun k => c13q ((zt_eq rfl rfl).mpr k))
          obtain ⟨o12q, h⟩ := h
          exact h_K26 _ _ _ _ (Eq.mpr (congrArg (fun k => K26z y1.toInt 1 k (aT v99_)) (show (((y3 + 1) : Int32)).toInt = ((y3.toInt + 1) : Int) from (zt_add rfl rfl o12q))) h)
def ZL_LAW_told_26 : Nat → Int → Int → Int → Int → TZ → (Int → TZ → Prop) → Prop
  | 0, _, _, _, _, _, _ => False
  | n + 1, x1, y1, y2, y3, v0, Q => zin (1 + (Int.tmod y1 4)) ∧ (((1 + (Int.tmod y1 4)) ≤ y3 → (ZJ_LAW_told_228 x1 y1 y2 v0 Q)) ∧ (¬ (1 + (Int.tmod y1 4)) ≤ y3 → ((y2 = 0 → (ZJ_LAW_told_228 x1 y1 y2 v0 Q)) ∧ (¬ y2 = 0 → zin (48 + (Int.tmod (zshrZ y1 y3) 8)) ∧ zin (48 + (Int.tmod (zshrZ y1 y3) 10)) ∧ zin (48 + (Int.tmod (Int.tdiv (zshrZ y1 y3) 3) 10)) ∧ (Z_LAW_says 119 (48 + (Int.tmod (zshrZ y1 y3) 8)) (48 + (Int.tmod (zshrZ y1 y3) 10)) (48 + (Int.tmod (Int.tdiv (zshrZ y1 y3) 3) 10)) v0 (fun r42_ v47_ => ((r42_ = 0 → zin (y3 + 1) ∧ (ZL_LAW_told_26 n x1 y1 0 (y3 + 1) v47_ Q)) ∧ (¬ r42_ = 0 → zin (48 + (Int.tmod (zshrZ y1 y3) 4)) ∧ zin (49 + (Int.tmod (zshrZ y1 y3) 9)) ∧ (Z_LAW_says (48 + (Int.tmod (zshrZ y1 y3) 4)) (49 + (Int.tmod (zshrZ y1 y3) 9)) 106 (48 + (Int.tmod (zshrZ y1 y3) 8)) v47_ (fun r52_ v57_ => ((r52_ = 0 → zin (y3 + 1) ∧ (ZL_LAW_told_26 n x1 y1 0 (y3 + 1) v57_ Q)) ∧ (¬ r52_ = 0 → ((¬ (Int.tmod (zshrZ y1 y3) 2) = 0 → zin (48 + (Int.tmod (zshrZ y1 y3) 3)) ∧ (ZJ_LAW_told_133 x1 y1 y3 (zshrZ y1 y3) 45 (48 + (Int.tmod (zshrZ y1 y3) 3)) v57_ (fun a0 a1 a2 w0 => (ZL_LAW_told_26 n x1 a0 a1 a2 w0 Q)) Q)) ∧ ((Int.tmod (zshrZ y1 y3) 2) = 0 → zin (48 + (Int.tmod (zshrZ y1 y3) 3)) ∧ (ZJ_LAW_told_133 x1 y1 y3 (zshrZ y1 y3) 43 (48 + (Int.tmod (zshrZ y1 y3) 3)) v57_ (fun a0 a1 a2 w0 => (ZL_LAW_told_26 n x1 a0 a1 a2 w0 Q)) Q)))))))))))))))
set_option maxRecDepth 100000 in
theorem zL_LAW_told_26 (n : Nat) : ∀ {x1 : Int32} {x1z : Int} {y1 : Int32} {y1z : Int} {y2 : Int32} {y2z : Int} {y3 : Int32} {y3z : Int} {v0 : TT} {v0z : TZ}  {Q : Int32 → TT → Prop} {Qz : (Int → TZ → Prop)} (e_x1 : x1.toInt = x1z) (e_y1 : y1.toInt = y1z) (e_y2 : y2.toInt = y2z) (e_y3 : y3.toInt = y3z) (e_v0 : (aT v0) = v0z) (h_Q : ∀ (a0 : Int32) (a1 : TT), Qz a0.toInt (aT a1) → Q a0 a1) (h : ZL_LAW_told_26 n x1z y1z y2z y3z v0z Qz), PL_LAW_told_26 n x1 y1 y2 y3 v0 Q := by
  induction n with
  | zero =>
    intro x1 x1z y1 y1z y2 y2z y3 y3z v0 v0z Q Qz e_x1 e_y1 e_y2 e_y3 e_v0 h_Q h
    exact (h : False).elim
  | succ n ih =>
    intro x1 x1z y1 y1z y2 y2z y3 y3z v0 v0z Q Qz e_x1 e_y1 e_y2 e_y3 e_v0 h_Q h
    subst e_x1
    subst e_y1
    subst e_y2
    subst e_y3
    subst e_v0
    rw [ZL_LAW_told_26] at h
    rw [PL_LAW_told_26]
    obtain ⟨o1q, h⟩ := h
    refine ⟨fun c15q => ?_, fun c15q => ?_⟩
    · have h := h.1 ((zt_le (show (((1 + (zrem y1 4)) : Int32)).toInt = ((1 + (Int.tmod y1.toInt 4)) : Int) from (zt_add rfl (show (((zrem y1 4) : Int32)).toInt = ((Int.tmod y1.toInt 4) : Int) from (zt_rem rfl rfl (by decide) (by decide))) o1q)) rfl).mp c15q)
      refine zJ_LAW_told_228 rfl rfl rfl rfl h_Q h
    · have h := h.2 (fun k => c15q ((zt_le (show (((1 + (zrem y1 4)) : Int32)).toInt = ((1 + (Int.tmod y1.toInt 4)) : Int) from (zt_add rfl (show (((zrem y1 4) : Int32)).toInt = ((Int.tmod y1.toInt 4) : Int) from (zt_rem rfl rfl (by decide) (by decide))) o1q)) rfl).mpr k))
      refine ⟨fun c14q => ?_, fun c14q => ?_⟩
      · have h := h.1 ((zt_eq rfl rfl).mp c14q)
        refine zJ_LAW_told_228 rfl rfl rfl rfl h_Q h
      · have h := h.2 (fun k => c14q ((zt_eq rfl rfl).mpr k))
        obtain ⟨o2q, h⟩ := h
        obtain ⟨o3q, h⟩ := h
        obtain ⟨o4q, h⟩ := h
        refine z_LAW_says rfl (show (((48 + (zrem (zshr y1 y3) 8)) : Int32)).toInt = ((48 + (Int.tmod (zshrZ y1.toInt y3.toInt) 8)) : Int) from (zt_add rfl (show (((zrem (zshr y1 y3) 8) : Int32)).toInt = ((Int.tmod (zshrZ y1.toInt y3.toInt) 8) : Int) from (zt_rem (show (((zshr y1 y3) : Int32)).toInt = ((zshrZ y1.toInt y3.toInt) : Int) from (zt_zshr rfl rfl)) rfl (by decide) (by decide))) o2q)) (show (((48 + (zrem (zshr y1 y3) 10)) : Int32)).toInt = ((48 + (Int.tmod (zshrZ y1.toInt y3.toInt) 10)) : Int) from (zt_add rfl (show (((zrem (zshr y1 y3) 10) : Int32)).toInt = ((Int.tmod (zshrZ y1.toInt y3.toInt) 10) : Int) from (zt_rem (show (((zshr y1 y3) : Int32)).toInt = ((zshrZ y1.toInt y3.toInt) : Int) from (zt_zshr rfl rfl)) rfl (by decide) (by decide))) o3q)) (show (((48 + (zrem ((zshr y1 y3) / 3) 10)) : Int32)).toInt = ((48 + (Int.tmod (Int.tdiv (zshrZ y1.toInt y3.toInt) 3) 10)) : Int) from (zt_add rfl (show (((zrem ((zshr y1 y3) / 3) 10) : Int32)).toInt = ((Int.tmod (Int.tdiv (zshrZ y1.toInt y3.toInt) 3) 10) : Int) from (zt_rem (show ((((zshr y1 y3) / 3) : Int32)).toInt = ((Int.tdiv (zshrZ y1.toInt y3.toInt) 3) : Int) from (zt_div (show (((zshr y1 y3) : Int32)).toInt = ((zshrZ y1.toInt y3.toInt) : Int) from (zt_zshr rfl rfl)) rfl (by decide))) rfl (by decide) (by decide))) o4q)) rfl (fun r42_ v47_ h => ?_) h
        refine ⟨fun c13q => ?_, fun c13q => ?_⟩
        · have h := h.1 ((zt_eq rfl rfl).mp c13q)
          obtain ⟨o5q, h⟩ := h
          refine ih rfl rfl rfl (show (((y3 + 1) : Int32)).toInt = ((y3.toInt + 1) : Int) from (zt_add rfl rfl o5q)) rfl h_Q h
        · have h := h.2 (fun k => c13q ((zt_eq rfl rfl).mpr k))
          obtain ⟨o6q, h⟩ := h
          obtain ⟨o7q, h⟩ := h
          refine z_LAW_says (show (((48 + (zrem (zshr y1 y3) 4)) : Int32)).toInt = ((48 + (Int.tmod (zshrZ y1.toInt y3.toInt) 4)) : Int) from (zt_add rfl (show (((zrem (zshr y1 y3) 4) : Int32)).toInt = ((Int.tmod (zshrZ y1.toInt y3.toInt) 4) : Int) from (zt_rem (show (((zshr y1 y3) : Int32)).toInt = ((zshrZ y1.toInt y3.toInt) : Int) from (zt_zshr rfl rfl)) rfl (by decide) (by decide))) o6q)) (show (((49 + (zrem (zshr y1 y3) 9)) : Int32)).toInt = ((49 + (Int.tmod (zshrZ y1.toInt y3.toInt) 9)) : Int) from (zt_add rfl (show (((zrem (zshr y1 y3) 9) : Int32)).toInt = ((Int.tmod (zshrZ y1.toInt y3.toInt) 9) : Int) from (zt_rem (show (((zshr y1 y3) : Int32)).toInt = ((zshrZ y1.toInt y3.toInt) : Int) from (zt_zshr rfl rfl)) rfl (by decide) (by decide))) o7q)) rfl (show (((48 + (zrem (zshr y1 y3) 8)) : Int32)).toInt = ((48 + (Int.tmod (zshrZ y1.toInt y3.toInt) 8)) : Int) from (zt_add rfl (show (((zrem (zshr y1 y3) 8) : Int32)).toInt = ((Int.tmod (zshrZ y1.toInt y3.toInt) 8) : Int) from (zt_rem (show (((zshr y1 y3) : Int32)).toInt = ((zshrZ y1.toInt y3.toInt) : Int) from (zt_zshr rfl rfl)) rfl (by decide) (by decide))) o2q)) rfl (fun r52_ v57_ h => ?_) h
          refine ⟨fun c12q => ?_, fun c12q => ?_⟩
          · have h := h.1 ((zt_eq rfl rfl).mp c12q)
            obtain ⟨o8q, h⟩ := h
            refine ih rfl rfl rfl (show (((y3 + 1) : Int32)).toInt = ((y3.toInt + 1) : Int) from (zt_add rfl rfl o8q)) rfl h_Q h
          · have h := h.2 (fun k => c12q ((zt_eq rfl rfl).mpr k))
            refine ⟨fun c11q => ?_, fun c11q => ?_⟩
            · have h := h.1 (fun k => c11q ((zt_eq (show (((zrem (zshr y1 y3) 2) : Int32)).toInt = ((Int.tmod (zshrZ y1.toInt y3.toInt) 2) : Int) from (zt_rem (show (((zshr y1 y3) : Int32)).toInt = ((zshrZ y1.toInt y3.toInt) : Int) from (zt_zshr rfl rfl)) rfl (by decide) (by decide))) rfl).mpr k))
              obtain ⟨o9q, h⟩ := h
              refine zJ_LAW_told_133 rfl rfl rfl (show (((zshr y1 y3) : Int32)).toInt = ((zshrZ y1.toInt y3.toInt) : Int) from (zt_zshr rfl rfl)) rfl (show (((48 + (zrem (zshr y1 y3) 3)) : Int32)).toInt = ((48 + (Int.tmod (zshrZ y1.toInt y3.toInt) 3)) : Int) from (zt_add rfl (show (((zrem (zshr y1 y3) 3) : Int32)).toInt = ((Int.tmod (zshrZ y1.toInt y3.toInt) 3) : Int) from (zt_rem (show (((zshr y1 y3) : Int32)).toInt = ((zshrZ y1.toInt y3.toInt) : Int) from (zt_zshr rfl rfl)) rfl (by decide) (by decide))) o9q)) rfl (fun a0 a1 a2 w0 h => ?_) h_Q h
              refine ih rfl rfl rfl rfl rfl h_Q h
            · have h := h.2 ((zt_eq (show (((zrem (zshr y1 y3) 2) : Int32)).toInt = ((Int.tmod (zshrZ y1.toInt y3.toInt) 2) : Int) from (zt_rem (show (((zshr y1 y3) : Int32)).toInt = ((zshrZ y1.toInt y3.toInt) : Int) from (zt_zshr rfl rfl)) rfl (by decide) (by decide))) rfl).mp c11q)
              obtain ⟨o10q, h⟩ := h
              refine zJ_LAW_told_133 rfl rfl rfl (show (((zshr y1 y3) : Int32)).toInt = ((zshrZ y1.toInt y3.toInt) : Int) from (zt_zshr rfl rfl)) rfl (show (((48 + (zrem (zshr y1 y3) 3)) : Int32)).toInt = ((48 + (Int.tmod (zshrZ y1.toInt y3.toInt) 3)) : Int) from (zt_add rfl (show (((zrem (zshr y1 y3) 3) : Int32)).toInt = ((Int.tmod (zshrZ y1.toInt y3.toInt) 3) : Int) from (zt_rem (show (((zshr y1 y3) : Int32)).toInt = ((zshrZ y1.toInt y3.toInt) : Int) from (zt_zshr rfl rfl)) rfl (by decide) (by decide))) o10q)) rfl (fun a0 a1 a2 w0 h => ?_) h_Q h
              refine ih rfl rfl rfl rfl rfl h_Q h
def Z_LAW_told (x1 : Int) (v0 : TZ) (Q : (Int → TZ → Prop)) : Prop := (Z_T_clearText v0 (fun r1_ v5_ => ((r1_ < 0 → (∃ n104_, n104_ ≤ 5 ∧ ((ZL_LAW_told_26 n104_ x1 x1 0 0 v5_ Q)))) ∧ (¬ r1_ < 0 → (Z_LAW_append 71 v5_ (fun r105_ v110_ => (((lg_cmpZ r105_ 0) ≤ 0 → (∃ n115_, n115_ ≤ 5 ∧ ((ZL_LAW_told_26 n115_ x1 x1 0 0 v110_ Q)))) ∧ (¬ (lg_cmpZ r105_ 0) ≤ 0 → (∃ n116_, n116_ ≤ 5 ∧ ((ZL_LAW_told_26 n116_ x1 x1 1 0 v110_ Q)))))))))))
set_option maxRecDepth 100000 in
theorem z_LAW_told {x1 : Int32} {x1z : Int} {v0 : TT} {v0z : TZ}  {Q : Int32 → TT → Prop} {Qz : (Int → TZ → Prop)} (e_x1 : x1.toInt = x1z) (e_v0 : (aT v0) = v0z) (h_Q : ∀ (a0 : Int32) (a1 : TT), Qz a0.toInt (aT a1) → Q a0 a1) (h : Z_LAW_told x1z v0z Qz) : P_LAW_told x1 v0 Q := by
  subst e_x1
  subst e_v0
  unfold Z_LAW_told at h
  unfold P_LAW_told
  refine z_T_clearText rfl (fun r1_ v5_ h => ?_) h
  refine ⟨fun c5q => ?_, fun c5q => ?_⟩
  · have h := h.1 ((zt_lt rfl rfl).mp c5q)
    obtain ⟨n104_, h⟩ := h
    refine ⟨n104_, ?_⟩
    obtain ⟨b1q, h⟩ := h
    refine ⟨b1q, ?_⟩
    refine zL_LAW_told_26 n104_ rfl rfl rfl rfl rfl h_Q h
  · have h := h.2 (fun k => c5q ((zt_lt rfl rfl).mpr k))
    refine z_LAW_append rfl rfl (fun r105_ v110_ h => ?_) h
    refine ⟨fun c4q => ?_, fun c4q => ?_⟩
    · have h := h.1 ((zt_le (show (((lg_cmp r105_ 0) : Int32)).toInt = ((lg_cmpZ r105_.toInt 0) : Int) from (zt_lg_cmp rfl rfl)) rfl).mp c4q)
      obtain ⟨n115_, h⟩ := h
      refine ⟨n115_, ?_⟩
      obtain ⟨b2q, h⟩ := h
      refine ⟨b2q, ?_⟩
      refine zL_LAW_told_26 n115_ rfl rfl rfl rfl rfl h_Q h
    · have h := h.2 (fun k => c4q ((zt_le (show (((lg_cmp r105_ 0) : Int32)).toInt = ((lg_cmpZ r105_.toInt 0) : Int) from (zt_lg_cmp rfl rfl)) rfl).mpr k))
      obtain ⟨n116_, h⟩ := h
      refine ⟨n116_, ?_⟩
      obtain ⟨b3q, h⟩ := h
      refine ⟨b3q, ?_⟩
      refine zL_LAW_told_26 n116_ rfl rfl rfl rfl rfl h_Q h

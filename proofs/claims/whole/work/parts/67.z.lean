def ZL_M_goRead_103 : Nat → Int → Int → Int → Int → Int → (Nat → Int) → (Int → (Nat → Int) → Prop) → Prop
  | 0, _, _, _, _, _, _, _ => False
  | n + 1, x1, x2, y2, y3, y5, v0, Q => ((y2 ≤ y5 → (Q y5 v0)) ∧ (¬ y2 ≤ y5 → zin (y3 + 1) ∧ ((0 : Int) ≤ (y3 + 1) ∧ ((y3 + 1) : Int) < 621) ∧ (((0 : Int) ≤ 401 ∧ (401 : Int) < 621) ∧ ((((v0 (Int.toNat 401)) ≤ (v0 (Int.toNat (y3 + 1))) → (Q y5 v0)) ∧ (¬ (v0 (Int.toNat 401)) ≤ (v0 (Int.toNat (y3 + 1))) → ((0 : Int) ≤ (y3 + 1) ∧ ((y3 + 1) : Int) < 621) ∧ ((Z_M_key (v0 (Int.toNat (y3 + 1))) v0 (fun r22_ => ((0 : Int) ≤ (y3 + 1) ∧ ((y3 + 1) : Int) < 621) ∧ ((Z_M_value (v0 (Int.toNat (y3 + 1))) v0 (fun r27_ => zin (y3 + 7) ∧ zin ((y3 + 7) + r22_) ∧ ((0 : Int) ≤ ((y3 + 7) + r22_) ∧ (((y3 + 7) + r22_) : Int) < 621) ∧ ((∀ v36_, v36_ = (updz v0 (Int.toNat ((y3 + 7) + r22_)) r27_) → (((0 : Int) ≤ (y3 + 1) ∧ ((y3 + 1) : Int) < 621) ∧ (((0 : Int) ≤ (y3 + 1) ∧ ((y3 + 1) : Int) < 621) ∧ (zin ((v36_ (Int.toNat (y3 + 1))) + 1) ∧ (∀ v45_, v45_ = (updz v36_ (Int.toNat (y3 + 1)) ((v36_ (Int.toNat (y3 + 1))) + 1)) → (zin (y3 + 3) ∧ ((0 : Int) ≤ (y3 + 3) ∧ ((y3 + 3) : Int) < 621) ∧ (((0 : Int) ≤ (y3 + 3) ∧ ((y3 + 3) : Int) < 621) ∧ (zin ((v45_ (Int.toNat (y3 + 3))) + 1) ∧ (∀ v54_, v54_ = (updz v45_ (Int.toNat (y3 + 3)) ((v45_ (Int.toNat (y3 + 3))) + 1)) → (zin (y5 + 1) ∧ (ZL_M_goRead_103 n x1 x2 y2 y3 (y5 + 1) v54_ Q))))))))))))))))))))))))
set_option maxRecDepth 100000 in
theorem zL_M_goRead_103 (n : Nat) : ∀ {x1 : Int32} {x1z : Int} {x2 : Int32} {x2z : Int} {y2 : Int32} {y2z : Int} {y3 : Int32} {y3z : Int} {y5 : Int32} {y5z : Int} {v0 : Nat → Int32} {v0z : (Nat → Int)}  {Q : Int32 → (Nat → Int32) → Prop} {Qz : (Int → (Nat → Int) → Prop)} (e_x1 : x1.toInt = x1z) (e_x2 : x2.toInt = x2z) (e_y2 : y2.toInt = y2z) (e_y3 : y3.toInt = y3z) (e_y5 : y5.toInt = y5z) (e_v0 : (aA v0) = v0z) (h_Q : ∀ (a0 : Int32) (a1 : Nat → Int32), Qz a0.toInt (aA a1) → Q a0 a1) (h : ZL_M_goRead_103 n x1z x2z y2z y3z y5z v0z Qz), PL_M_goRead_103 n x1 x2 y2 y3 y5 v0 Q := by
  induction n with
  | zero =>
    intro x1 x1z x2 x2z y2 y2z y3 y3z y5 y5z v0 v0z Q Qz e_x1 e_x2 e_y2 e_y3 e_y5 e_v0 h_Q h
    exact (h : False).elim
  | succ n ih =>
    intro x1 x1z x2 x2z y2 y2z y3 y3z y5 y5z v0 v0z Q Qz e_x1 e_x2 e_y2 e_y3 e_y5 e_v0 h_Q h
    subst e_x1
    subst e_x2
    subst e_y2
    subst e_y3
    subst e_y5
    subst e_v0
    rw [ZL_M_goRead_103] at h
    rw [PL_M_goRead_103]
    refine ⟨fun c18q => ?_, fun c18q => ?_⟩
    · have h := h.1 ((zt_le rfl rfl).mp c18q)
      exact h_Q _ _ h
    · have h := h.2 (fun k => c18q ((zt_le rfl rfl).mpr k))
      obtain ⟨o1q, h⟩ := h
      obtain ⟨i2q, h⟩ := h
      refine ⟨zt_in (show (((y3 + 1) : Int32)).toInt = ((y3.toInt + 1) : Int) from (zt_add rfl rfl o1q)) i2q, ?_⟩
      obtain ⟨i3q, h⟩ := h
      refine ⟨zt_in (show (401 : Int32).toInt = 401 from by decide) i3q, ?_⟩
      refine ⟨fun c17q => ?_, fun c17q => ?_⟩
      · have h := h.1 ((zt_le rfl (show (((v0 (Int32.toNatClampNeg (y3 + 1))) : Int32)).toInt = (((aA v0) (Int.toNat (y3.toInt + 1))) : Int) from (congrArg (fun k => (aA v0) k) (show (Int32.toNatClampNeg (y3 + 1)) = (Int.toNat (y3.toInt + 1)) from (congrArg Int.toNat (show (((y3 + 1) : Int32)).toInt = ((y3.toInt + 1) : Int) from (zt_add rfl rfl o1q))))))).mp c17q)
        exact h_Q _ _ h
      · have h := h.2 (fun k => c17q ((zt_le rfl (show (((v0 (Int32.toNatClampNeg (y3 + 1))) : Int32)).toInt = (((aA v0) (Int.toNat (y3.toInt + 1))) : Int) from (congrArg (fun k => (aA v0) k) (show (Int32.toNatClampNeg (y3 + 1)) = (Int.toNat (y3.toInt + 1)) from (congrArg Int.toNat (show (((y3 + 1) : Int32)).toInt = ((y3.toInt + 1) : Int) from (zt_add rfl rfl o1q))))))).mpr k))
        obtain ⟨i4q, h⟩ := h
        refine ⟨zt_in (show (((y3 + 1) : Int32)).toInt = ((y3.toInt + 1) : Int) from (zt_add rfl rfl o1q)) i4q, ?_⟩
        refine z_M_key (show (((v0 (Int32.toNatClampNeg (y3 + 1))) : Int32)).toInt = (((aA v0) (Int.toNat (y3.toInt + 1))) : Int) from (congrArg (fun k => (aA v0) k) (show (Int32.toNatClampNeg (y3 + 1)) = (Int.toNat (y3.toInt + 1)) from (congrArg Int.toNat (show (((y3 + 1) : Int32)).toInt = ((y3.toInt + 1) : Int) from (zt_add rfl rfl o1q)))))) rfl (fun r22_ h => ?_) h
        obtain ⟨i5q, h⟩ := h
        refine ⟨zt_in (show (((y3 + 1) : Int32)).toInt = ((y3.toInt + 1) : Int) from (zt_add rfl rfl o1q)) i5q, ?_⟩
        refine z_M_value (show (((v0 (Int32.toNatClampNeg (y3 + 1))) : Int32)).toInt = (((aA v0) (Int.toNat (y3.toInt + 1))) : Int) from (congrArg (fun k => (aA v0) k) (show (Int32.toNatClampNeg (y3 + 1)) = (Int.toNat (y3.toInt + 1)) from (congrArg Int.toNat (show (((y3 + 1) : Int32)).toInt = ((y3.toInt + 1) : Int) from (zt_add rfl rfl o1q)))))) rfl (fun r27_ h => ?_) h
        obtain ⟨o6q, h⟩ := h
        obtain ⟨o7q, h⟩ := h
        obtain ⟨i8q, h⟩ := h
        refine ⟨zt_in (show ((((y3 + 7) + r22_) : Int32)).toInt = (((y3.toInt + 7) + r22_.toInt) : Int) from (zt_add (show (((y3 + 7) : Int32)).toInt = ((y3.toInt + 7) : Int) from (zt_add rfl rfl o6q)) rfl o7q)) i8q, ?_⟩
        intro v36_ ev36_
        have h := h (aA v36_) (by rw [ev36_]; exact (show (aA (upd v0 (Int32.toNatClampNeg ((y3 + 7) + r22_)) r27_)) = (updz (aA v0) (Int.toNat ((y3.toInt + 7) + r22_.toInt)) r27_.toInt) from (zt_upd rfl (show (Int32.toNatClampNeg ((y3 + 7) + r22_)) = (Int.toNat ((y3.toInt + 7) + r22_.toInt)) from (congrArg Int.toNat (show ((((y3 + 7) + r22_) : Int32)).toInt = (((y3.toInt + 7) + r22_.toInt) : Int) from (zt_add (show (((y3 + 7) : Int32)).toInt = ((y3.toInt + 7) : Int) from (zt_add rfl rfl o6q)) rfl o7q)))) rfl)))
        obtain ⟨i9q, h⟩ := h
        refine ⟨zt_in (show (((y3 + 1) : Int32)).toInt = ((y3.toInt + 1) : Int) from (zt_add rfl rfl o1q)) i9q, ?_⟩
        obtain ⟨i10q, h⟩ := h
        refine ⟨zt_in (show (((y3 + 1) : Int32)).toInt = ((y3.toInt + 1) : Int) from (zt_add rfl rfl o1q)) i10q, ?_⟩
        obtain ⟨o11q, h⟩ := h
        intro v45_ ev45_
        have h := h (aA v45_) (by rw [ev45_]; exact (show (aA (upd v36_ (Int32.toNatClampNeg (y3 + 1)) ((v36_ (Int32.toNatClampNeg (y3 + 1))) + 1))) = (updz (aA v36_) (Int.toNat (y3.toInt + 1)) (((aA v36_) (Int.toNat (y3.toInt + 1))) + 1)) from (zt_upd rfl (show (Int32.toNatClampNeg (y3 + 1)) = (Int.toNat (y3.toInt + 1)) from (congrArg Int.toNat (show (((y3 + 1) : Int32)).toInt = ((y3.toInt + 1) : Int) from (zt_add rfl rfl o1q)))) (show ((((v36_ (Int32.toNatClampNeg (y3 + 1))) + 1) : Int32)).toInt = ((((aA v36_) (Int.toNat (y3.toInt + 1))) + 1) : Int) from (zt_add (show (((v36_ (Int32.toNatClampNeg (y3 + 1))) : Int32)).toInt = (((aA v36_) (Int.toNat (y3.toInt + 1))) : Int) from (congrArg (fun k => (aA v36_) k) (show (Int32.toNatClampNeg (y3 + 1)) = (Int.toNat (y3.toInt + 1)) from (congrArg Int.toNat (show (((y3 + 1) : Int32)).toInt = ((y3.toInt + 1) : Int) from (zt_add rfl rfl o1q)))))) rfl o11q)))))
        obtain ⟨o12q, h⟩ := h
        obtain ⟨i13q, h⟩ := h
        refine ⟨zt_in (show (((y3 + 3) : Int32)).toInt = ((y3.toInt + 3) : Int) from (zt_add rfl rfl o12q)) i13q, ?_⟩
        obtain ⟨i14q, h⟩ := h
        refine ⟨zt_in (show (((y3 + 3) : Int32)).toInt = ((y3.toInt + 3) : Int) from (zt_add rfl rfl o12q)) i14q, ?_⟩
        obtain ⟨o15q, h⟩ := h
        intro v54_ ev54_
        have h := h (aA v54_) (by rw [ev54_]; exact (show (aA (upd v45_ (Int32.toNatClampNeg (y3 + 3)) ((v45_ (Int32.toNatClampNeg (y3 + 3))) + 1))) = (updz (aA v45_) (Int.toNat (y3.toInt + 3)) (((aA v45_) (Int.toNat (y3.toInt + 3))) + 1)) from (zt_upd rfl (show (Int32.toNatClampNeg (y3 + 3)) = (Int.toNat (y3.toInt + 3)) from (congrArg Int.toNat (show (((y3 + 3) : Int32)).toInt = ((y3.toInt + 3) : Int) from (zt_add rfl rfl o12q)))) (show ((((v45_ (Int32.toNatClampNeg (y3 + 3))) + 1) : Int32)).toInt = ((((aA v45_) (Int.toNat (y3.toInt + 3))) + 1) : Int) from (zt_add (show (((v45_ (Int32.toNatClampNeg (y3 + 3))) : Int32)).toInt = (((aA v45_) (Int.toNat (y3.toInt + 3))) : Int) from (congrArg (fun k => (aA v45_) k) (show (Int32.toNatClampNeg (y3 + 3)) = (Int.toNat (y3.toInt + 3)) from (congrArg Int.toNat (show (((y3 + 3) : Int32)).toInt = ((y3.toInt + 3) : Int) from (zt_add rfl rfl o12q)))))) rfl o15q)))))
        obtain ⟨o16q, h⟩ := h
        refine ih rfl rfl rfl rfl (show (((y5 + 1) : Int32)).toInt = ((y5.toInt + 1) : Int) from (zt_add rfl rfl o16q)) rfl h_Q h
def ZL_M_goRead_66 : Nat → Int → Int → Int → Int → Int → (Nat → Int) → (Int → (Nat → Int) → Prop) → Prop
  | 0, _, _, _, _, _, _, _ => False
  | n + 1, x1, x2, y3, y4, y5, v0, Q => ((8 ≤ y5 → zin (-y4) ∧ (Q (-y4) v0)) ∧ (¬ 8 ≤ y5 → zin (402 + y5) ∧ ((0 : Int) ≤ (402 + y5) ∧ ((402 + y5) : Int) < 621) ∧ (zin (y3 + 7) ∧ zin ((y3 + 7) + y5) ∧ ((0 : Int) ≤ ((y3 + 7) + y5) ∧ (((y3 + 7) + y5) : Int) < 621) ∧ ((∀ v92_, v92_ = (updz v0 (Int.toNat ((y3 + 7) + y5)) (v0 (Int.toNat (402 + y5)))) → (zin (y5 + 1) ∧ (ZL_M_goRead_66 n x1 x2 y3 y4 (y5 + 1) v92_ Q)))))))
set_option maxRecDepth 100000 in
theorem zL_M_goRead_66 (n : Nat) : ∀ {x1 : Int32} {x1z : Int} {x2 : Int32} {x2z : Int} {y3 : Int32} {y3z : Int} {y4 : Int32} {y4z : Int} {y5 : Int32} {y5z : Int} {v0 : Nat → Int32} {v0z : (Nat → Int)}  {Q : Int32 → (Nat → Int32) → Prop} {Qz : (Int → (Nat → Int) → Prop)} (e_x1 : x1.toInt = x1z) (e_x2 : x2.toInt = x2z) (e_y3 : y3.toInt = y3z) (e_y4 : y4.toInt = y4z) (e_y5 : y5.toInt = y5z) (e_v0 : (aA v0) = v0z) (h_Q : ∀ (a0 : Int32) (a1 : Nat → Int32), Qz a0.toInt (aA a1) → Q a0 a1) (h : ZL_M_goRead_66 n x1z x2z y3z y4z y5z v0z Qz), PL_M_goRead_66 n x1 x2 y3 y4 y5 v0 Q := by
  induction n with
  | zero =>
    intro x1 x1z x2 x2z y3 y3z y4 y4z y5 y5z v0 v0z Q Qz e_x1 e_x2 e_y3 e_y4 e_y5 e_v0 h_Q h
    exact (h : False).elim
  | succ n ih =>
    intro x1 x1z x2 x2z y3 y3z y4 y4z y5 y5z v0 v0z Q Qz e_x1 e_x2 e_y3 e_y4 e_y5 e_v0 h_Q h
    subst e_x1
    subst e_x2
    subst e_y3
    subst e_y4
    subst e_y5
    subst e_v0
    rw [ZL_M_goRead_66] at h
    rw [PL_M_goRead_66]
    refine ⟨fun c8q => ?_, fun c8q => ?_⟩
    · have h := h.1 ((zt_le rfl rfl).mp c8q)
      obtain ⟨o1q, h⟩ := h
      exact h_Q _ _ (Eq.mpr (congrArg (fun k => Qz k (aA v0)) (show (((-y4) : Int32)).toInt = ((-y4.toInt) : Int) from (zt_neg rfl o1q))) h)
    · have h := h.2 (fun k => c8q ((zt_le rfl rfl).mpr k))
      obtain ⟨o2q, h⟩ := h
      obtain ⟨i3q, h⟩ := h
      refine ⟨zt_in (show (((402 + y5) : Int32)).toInt = ((402 + y5.toInt) : Int) from (zt_add rfl rfl o2q)) i3q, ?_⟩
      obtain ⟨o4q, h⟩ := h
      obtain ⟨o5q, h⟩ := h
      obtain ⟨i6q, h⟩ := h
      refine ⟨zt_in (show ((((y3 + 7) + y5) : Int32)).toInt = (((y3.toInt + 7) + y5.toInt) : Int) from (zt_add (show (((y3 + 7) : Int32)).toInt = ((y3.toInt + 7) : Int) from (zt_add rfl rfl o4q)) rfl o5q)) i6q, ?_⟩
      intro v92_ ev92_
      have h := h (aA v92_) (by rw [ev92_]; exact (show (aA (upd v0 (Int32.toNatClampNeg ((y3 + 7) + y5)) (v0 (Int32.toNatClampNeg (402 + y5))))) = (updz (aA v0) (Int.toNat ((y3.toInt + 7) + y5.toInt)) ((aA v0) (Int.toNat (402 + y5.toInt)))) from (zt_upd rfl (show (Int32.toNatClampNeg ((y3 + 7) + y5)) = (Int.toNat ((y3.toInt + 7) + y5.toInt)) from (congrArg Int.toNat (show ((((y3 + 7) + y5) : Int32)).toInt = (((y3.toInt + 7) + y5.toInt) : Int) from (zt_add (show (((y3 + 7) : Int32)).toInt = ((y3.toInt + 7) : Int) from (zt_add rfl rfl o4q)) rfl o5q)))) (show (((v0 (Int32.toNatClampNeg (402 + y5))) : Int32)).toInt = (((aA v0) (Int.toNat (402 + y5.toInt))) : Int) from (congrArg (fun k => (aA v0) k) (show (Int32.toNatClampNeg (402 + y5)) = (Int.toNat (402 + y5.toInt)) from (congrArg Int.toNat (show (((402 + y5) : Int32)).toInt = ((402 + y5.toInt) : Int) from (zt_add rfl rfl o2q)))))))))
      obtain ⟨o7q, h⟩ := h
      refine ih rfl rfl rfl rfl (show (((y5 + 1) : Int32)).toInt = ((y5.toInt + 1) : Int) from (zt_add rfl rfl o7q)) rfl h_Q h
def Z_M_goRead (x1 : Int) (x2 : Int) (v0 : (Nat → Int)) (Q : (Int → (Nat → Int) → Prop)) : Prop := (Z_M_reader x1 (fun r1_ => ((0 : Int) ≤ 616 ∧ (616 : Int) < 621) ∧ (zin (r1_ + 5) ∧ ((0 : Int) ≤ (r1_ + 5) ∧ ((r1_ + 5) : Int) < 621) ∧ ((∀ v11_, v11_ = (updz v0 (Int.toNat (r1_ + 5)) (v0 (Int.toNat 616))) → (((0 : Int) ≤ 400 ∧ (400 : Int) < 621) ∧ (zin (r1_ + 1) ∧ ((0 : Int) ≤ (r1_ + 1) ∧ ((r1_ + 1) : Int) < 621) ∧ (zin ((v11_ (Int.toNat 400)) - (v11_ (Int.toNat (r1_ + 1)))) ∧ ((((v11_ (Int.toNat 400)) - (v11_ (Int.toNat (r1_ + 1)))) ≤ 0 → (∃ n57_, (ZL_M_goRead_103 n57_ x1 x2 x2 r1_ 0 v11_ Q))) ∧ (¬ ((v11_ (Int.toNat 400)) - (v11_ (Int.toNat (r1_ + 1)))) ≤ 0 → zin (r1_ + 4) ∧ ((0 : Int) ≤ (r1_ + 4) ∧ ((r1_ + 4) : Int) < 621) ∧ (((0 : Int) ≤ (r1_ + 4) ∧ ((r1_ + 4) : Int) < 621) ∧ (zin ((v11_ (Int.toNat (r1_ + 4))) + ((v11_ (Int.toNat 400)) - (v11_ (Int.toNat (r1_ + 1))))) ∧ (∀ v64_, v64_ = (updz v11_ (Int.toNat (r1_ + 4)) ((v11_ (Int.toNat (r1_ + 4))) + ((v11_ (Int.toNat 400)) - (v11_ (Int.toNat (r1_ + 1)))))) → (((0 : Int) ≤ 620 ∧ (620 : Int) < 621) ∧ (((0 : Int) ≤ 620 ∧ (620 : Int) < 621) ∧ (zin ((v64_ (Int.toNat 620)) + ((v11_ (Int.toNat 400)) - (v11_ (Int.toNat (r1_ + 1))))) ∧ (∀ v73_, v73_ = (updz v64_ (Int.toNat 620) ((v64_ (Int.toNat 620)) + ((v11_ (Int.toNat 400)) - (v11_ (Int.toNat (r1_ + 1)))))) → (((0 : Int) ≤ 400 ∧ (400 : Int) < 621) ∧ (((0 : Int) ≤ (r1_ + 1) ∧ ((r1_ + 1) : Int) < 621) ∧ ((∀ v82_, v82_ = (updz v73_ (Int.toNat (r1_ + 1)) (v73_ (Int.toNat 400))) → ((∃ n95_, (ZL_M_goRead_66 n95_ x1 x2 r1_ ((v11_ (Int.toNat 400)) - (v11_ (Int.toNat (r1_ + 1)))) 0 v82_ Q))))))))))))))))))))))))
set_option maxRecDepth 100000 in
theorem z_M_goRead {x1 : Int32} {x1z : Int} {x2 : Int32} {x2z : Int} {v0 : Nat → Int32} {v0z : (Nat → Int)}  {Q : Int32 → (Nat → Int32) → Prop} {Qz : (Int → (Nat → Int) → Prop)} (e_x1 : x1.toInt = x1z) (e_x2 : x2.toInt = x2z) (e_v0 : (aA v0) = v0z) (h_Q : ∀ (a0 : Int32) (a1 : Nat → Int32), Qz a0.toInt (aA a1) → Q a0 a1) (h : Z_M_goRead x1z x2z v0z Qz) : P_M_goRead x1 x2 v0 Q := by
  subst e_x1
  subst e_x2
  subst e_v0
  unfold Z_M_goRead at h
  unfold P_M_goRead
  refine z_M_reader rfl (fun r1_ h => ?_) h
  obtain ⟨i1q, h⟩ := h
  refine ⟨zt_in (show (616 : Int32).toInt = 616 from by decide) i1q, ?_⟩
  obtain ⟨o2q, h⟩ := h
  obtain ⟨i3q, h⟩ := h
  refine ⟨zt_in (show (((r1_ + 5) : Int32)).toInt = ((r1_.toInt + 5) : Int) from (zt_add rfl rfl o2q)) i3q, ?_⟩
  intro v11_ ev11_
  have h := h (aA v11_) (by rw [ev11_]; exact (show (aA (upd v0 (Int32.toNatClampNeg (r1_ + 5)) (v0 (Int32.toNatClampNeg 616)))) = (updz (aA v0) (Int.toNat (r1_.toInt + 5)) ((aA v0) (Int.toNat 616))) from (zt_upd rfl (show (Int32.toNatClampNeg (r1_ + 5)) = (Int.toNat (r1_.toInt + 5)) from (congrArg Int.toNat (show (((r1_ + 5) : Int32)).toInt = ((r1_.toInt + 5) : Int) from (zt_add rfl rfl o2q)))) rfl)))
  obtain ⟨i4q, h⟩ := h
  refine ⟨zt_in (show (400 : Int32).toInt = 400 from by decide) i4q, ?_⟩
  obtain ⟨o5q, h⟩ := h
  obtain ⟨i6q, h⟩ := h
  refine ⟨zt_in (show (((r1_ + 1) : Int32)).toInt = ((r1_.toInt + 1) : Int) from (zt_add rfl rfl o5q)) i6q, ?_⟩
  obtain ⟨o7q, h⟩ := h
  refine ⟨fun c17q => ?_, fun c17q => ?_⟩
  · have h := h.1 ((zt_le (show ((((v11_ (Int32.toNatClampNeg 400)) - (v11_ (Int32.toNatClampNeg (r1_ + 1)))) : Int32)).toInt = ((((aA v11_) (Int.toNat 400)) - ((aA v11_) (Int.toNat (r1_.toInt + 1)))) : Int) from (zt_sub rfl (show (((v11_ (Int32.toNatClampNeg (r1_ + 1))) : Int32)).toInt = (((aA v11_) (Int.toNat (r1_.toInt + 1))) : Int) from (congrArg (fun k => (aA v11_) k) (show (Int32.toNatClampNeg (r1_ + 1)) = (Int.toNat (r1_.toInt + 1)) from (congrArg Int.toNat (show (((r1_ + 1) : Int32)).toInt = ((r1_.toInt + 1) : Int) from (zt_add rfl rfl o5q)))))) o7q)) rfl).mp c17q)
    obtain ⟨n57_, h⟩ := h
    refine ⟨n57_, ?_⟩
    refine zL_M_goRead_103 n57_ rfl rfl rfl rfl rfl rfl h_Q h
  · have h := h.2 (fun k => c17q ((zt_le (show ((((v11_ (Int32.toNatClampNeg 400)) - (v11_ (Int32.toNatClampNeg (r1_ + 1)))) : Int32)).toInt = ((((aA v11_) (Int.toNat 400)) - ((aA v11_) (Int.toNat (r1_.toInt + 1)))) : Int) from (zt_sub rfl (show (((v11_ (Int32.toNatClampNeg (r1_ + 1))) : Int32)).toInt = (((aA v11_) (Int.toNat (r1_.toInt + 1))) : Int) from (congrArg (fun k => (aA v11_) k) (show (Int32.toNatClampNeg (r1_ + 1)) = (Int.toNat (r1_.toInt + 1)) from (congrArg Int.toNat (show (((r1_ + 1) : Int32)).toInt = ((r1_.toInt + 1) : Int) from (zt_add rfl rfl o5q)))))) o7q)) rfl).mpr k))
    obtain ⟨o8q, h⟩ := h
    obtain ⟨i9q, h⟩ := h
    refine ⟨zt_in (show (((r1_ + 4) : Int32)).toInt = ((r1_.toInt + 4) : Int) from (zt_add rfl rfl o8q)) i9q, ?_⟩
    obtain ⟨i10q, h⟩ := h
    refine ⟨zt_in (show (((r1_ + 4) : Int32)).toInt = ((r1_.toInt + 4) : Int) from (zt_add rfl rfl o8q)) i10q, ?_⟩
    obtain ⟨o11q, h⟩ := h
    intro v64_ ev64_
    have h := h (aA v64_) (by rw [ev64_]; exact (show (aA (upd v11_ (Int32.toNatClampNeg (r1_ + 4)) ((v11_ (Int32.toNatClampNeg (r1_ + 4))) + ((v11_ (Int32.toNatClampNeg 400)) - (v11_ (Int32.toNatClampNeg (r1_ + 1))))))) = (updz (aA v11_) (Int.toNat (r1_.toInt + 4)) (((aA v11_) (Int.toNat (r1_.toInt + 4))) + (((aA v11_) (Int.toNat 400)) - ((aA v11_) (Int.toNat (r1_.toInt + 1)))))) from (zt_upd rfl (show (Int32.toNatClampNeg (r1_ + 4)) = (Int.toNat (r1_.toInt + 4)) from (congrArg Int.toNat (show (((r1_ + 4) : Int32)).toInt = ((r1_.toInt + 4) : Int) from (zt_add rfl rfl o8q)))) (show ((((v11_ (Int32.toNatClampNeg (r1_ + 4))) + ((v11_ (Int32.toNatClampNeg 400)) - (v11_ (Int32.toNatClampNeg (r1_ + 1))))) : Int32)).toInt = ((((aA v11_) (Int.toNat (r1_.toInt + 4))) + (((aA v11_) (Int.toNat 400)) - ((aA v11_) (Int.toNat (r1_.toInt + 1))))) : Int) from (zt_add (show (((v11_ (Int32.toNatClampNeg (r1_ + 4))) : Int32)).toInt = (((aA v11_) (Int.toNat (r1_.toInt + 4))) : Int) from (congrArg (fun k => (aA v11_) k) (show (Int32.toNatClampNeg (r1_ + 4)) = (Int.toNat (r1_.toInt + 4)) from (congrArg Int.toNat (show (((r1_ + 4) : Int32)).toInt = ((r1_.toInt + 4) : Int) from (zt_add rfl rfl o8q)))))) (show ((((v11_ (Int32.toNatClampNeg 400)) - (v11_ (Int32.toNatClampNeg (r1_ + 1)))) : Int32)).toInt = ((((aA v11_) (Int.toNat 400)) - ((aA v11_) (Int.toNat (r1_.toInt + 1)))) : Int) from (zt_sub rfl (show (((v11_ (Int32.toNatClampNeg (r1_ + 1))) : Int32)).toInt = (((aA v11_) (Int.toNat (r1_.toInt + 1))) : Int) from (congrArg (fun k => (aA v11_) k) (show (Int32.toNatClampNeg (r1_ + 1)) = (Int.toNat (r1_.toInt + 1)) from (congrArg Int.toNat (show (((r1_ + 1) : Int32)).toInt = ((r1_.toInt + 1) : Int) from (zt_add rfl rfl o5q)))))) o7q)) o11q)))))
    obtain ⟨i12q, h⟩ := h
    refine ⟨zt_in (show (620 : Int32).toInt = 620 from by decide) i12q, ?_⟩
    obtain ⟨i13q, h⟩ := h
    refine ⟨zt_in (show (620 : Int32).toInt = 620 from by decide) i13q, ?_⟩
    obtain ⟨o14q, h⟩ := h
    intro v73_ ev73_
    have h := h (aA v73_) (by rw [ev73_]; exact (show (aA (upd v64_ (Int32.toNatClampNeg 620) ((v64_ (Int32.toNatClampNeg 620)) + ((v11_ (Int32.toNatClampNeg 400)) - (v11_ (Int32.toNatClampNeg (r1_ + 1))))))) = (updz (aA v64_) (Int.toNat 620) (((aA v64_) (Int.toNat 620)) + (((aA v11_) (Int.toNat 400)) - ((aA v11_) (Int.toNat (r1_.toInt + 1)))))) from (zt_upd rfl rfl (show ((((v64_ (Int32.toNatClampNeg 620)) + ((v11_ (Int32.toNatClampNeg 400)) - (v11_ (Int32.toNatClampNeg (r1_ + 1))))) : Int32)).toInt = ((((aA v64_) (Int.toNat 620)) + (((aA v11_) (Int.toNat 400)) - ((aA v11_) (Int.toNat (r1_.toInt + 1))))) : Int) from (zt_add rfl (show ((((v11_ (Int32.toNatClampNeg 400)) - (v11_ (Int32.toNatClampNeg (r1_ + 1)))) : Int32)).toInt = ((((aA v11_) (Int.toNat 400)) - ((aA v11_) (Int.toNat (r1_.toInt + 1)))) : Int) from (zt_sub rfl (show (((v11_ (Int32.toNatClampNeg (r1_ + 1))) : Int32)).toInt = (((aA v11_) (Int.toNat (r1_.toInt + 1))) : Int) from (congrArg (fun k => (aA v11_) k) (show (Int32.toNatClampNeg (r1_ + 1)) = (Int.toNat (r1_.toInt + 1)) from (congrArg Int.toNat (show (((r1_ + 1) : Int32)).toInt = ((r1_.toInt + 1) : Int) from (zt_add rfl rfl o5q)))))) o7q)) o14q)))))
    obtain ⟨i15q, h⟩ := h
    refine ⟨zt_in (show (400 : Int32).toInt = 400 from by decide) i15q, ?_⟩
    obtain ⟨i16q, h⟩ := h
    refine ⟨zt_in (show (((r1_ + 1) : Int32)).toInt = ((r1_.toInt + 1) : Int) from (zt_add rfl rfl o5q)) i16q, ?_⟩
    intro v82_ ev82_
    have h := h (aA v82_) (by rw [ev82_]; exact (show (aA (upd v73_ (Int32.toNatClampNeg (r1_ + 1)) (v73_ (Int32.toNatClampNeg 400)))) = (updz (aA v73_) (Int.toNat (r1_.toInt + 1)) ((aA v73_) (Int.toNat 400))) from (zt_upd rfl (show (Int32.toNatClampNeg (r1_ + 1)) = (Int.toNat (r1_.toInt + 1)) from (congrArg Int.toNat (show (((r1_ + 1) : Int32)).toInt = ((r1_.toInt + 1) : Int) from (zt_add rfl rfl o5q)))) rfl)))
    obtain ⟨n95_, h⟩ := h
    refine ⟨n95_, ?_⟩
    refine zL_M_goRead_66 n95_ rfl rfl rfl (show ((((v11_ (Int32.toNatClampNeg 400)) - (v11_ (Int32.toNatClampNeg (r1_ + 1)))) : Int32)).toInt = ((((aA v11_) (Int.toNat 400)) - ((aA v11_) (Int.toNat (r1_.toInt + 1)))) : Int) from (zt_sub rfl (show (((v11_ (Int32.toNatClampNeg (r1_ + 1))) : Int32)).toInt = (((aA v11_) (Int.toNat (r1_.toInt + 1))) : Int) from (congrArg (fun k => (aA v11_) k) (show (Int32.toNatClampNeg (r1_ + 1)) = (Int.toNat (r1_.toInt + 1)) from (congrArg Int.toNat (show (((r1_ + 1) : Int32)).toInt = ((r1_.toInt + 1) : Int) from (zt_add rfl rfl o5q)))))) o7q)) rfl rfl h_Q h

def ZL_M_readers_4 : Nat → (Nat → Int) → Int → Int → (Int → Prop) → Prop
  | 0, _, _, _, _ => False
  | n + 1, v0, y1, y2, Q => ((8 ≤ y2 → (Q y1)) ∧ (¬ 8 ≤ y2 → (Z_M_reader y2 (fun r2_ => zin (r2_ + 0) ∧ ((0 : Int) ≤ (r2_ + 0) ∧ ((r2_ + 0) : Int) < 621) ∧ (zin (y1 + (v0 (Int.toNat (r2_ + 0)))) ∧ zin (y2 + 1) ∧ (ZL_M_readers_4 n v0 (y1 + (v0 (Int.toNat (r2_ + 0)))) (y2 + 1) Q))))))
set_option maxRecDepth 100000 in
theorem zL_M_readers_4 (n : Nat) : ∀ {v0 : Nat → Int32} {v0z : (Nat → Int)} {y1 : Int32} {y1z : Int} {y2 : Int32} {y2z : Int}  {Q : Int32 → Prop} {Qz : (Int → Prop)} (e_v0 : (aA v0) = v0z) (e_y1 : y1.toInt = y1z) (e_y2 : y2.toInt = y2z) (h_Q : ∀ (a0 : Int32), Qz a0.toInt → Q a0) (h : ZL_M_readers_4 n v0z y1z y2z Qz), PL_M_readers_4 n v0 y1 y2 Q := by
  induction n with
  | zero =>
    intro v0 v0z y1 y1z y2 y2z Q Qz e_v0 e_y1 e_y2 h_Q h
    exact (h : False).elim
  | succ n ih =>
    intro v0 v0z y1 y1z y2 y2z Q Qz e_v0 e_y1 e_y2 h_Q h
    subst e_v0
    subst e_y1
    subst e_y2
    rw [ZL_M_readers_4] at h
    rw [PL_M_readers_4]
    refine ⟨fun c5q => ?_, fun c5q => ?_⟩
    · have h := h.1 ((zt_le rfl rfl).mp c5q)
      exact h_Q _ h
    · have h := h.2 (fun k => c5q ((zt_le rfl rfl).mpr k))
      refine z_M_reader rfl (fun r2_ h => ?_) h
      obtain ⟨o1q, h⟩ := h
      obtain ⟨i2q, h⟩ := h
      refine ⟨zt_in (show (((r2_ + 0) : Int32)).toInt = ((r2_.toInt + 0) : Int) from (zt_add rfl rfl o1q)) i2q, ?_⟩
      obtain ⟨o3q, h⟩ := h
      obtain ⟨o4q, h⟩ := h
      refine ih rfl (show (((y1 + (v0 (Int32.toNatClampNeg (r2_ + 0)))) : Int32)).toInt = ((y1.toInt + ((aA v0) (Int.toNat (r2_.toInt + 0)))) : Int) from (zt_add rfl (show (((v0 (Int32.toNatClampNeg (r2_ + 0))) : Int32)).toInt = (((aA v0) (Int.toNat (r2_.toInt + 0))) : Int) from (congrArg (fun k => (aA v0) k) (show (Int32.toNatClampNeg (r2_ + 0)) = (Int.toNat (r2_.toInt + 0)) from (congrArg Int.toNat (show (((r2_ + 0) : Int32)).toInt = ((r2_.toInt + 0) : Int) from (zt_add rfl rfl o1q)))))) o3q)) (show (((y2 + 1) : Int32)).toInt = ((y2.toInt + 1) : Int) from (zt_add rfl rfl o4q)) h_Q h
def Z_M_readers (v0 : (Nat → Int)) (Q : (Int → Prop)) : Prop := (∃ n7_, (ZL_M_readers_4 n7_ v0 0 0 Q))
set_option maxRecDepth 100000 in
theorem z_M_readers {v0 : Nat → Int32} {v0z : (Nat → Int)}  {Q : Int32 → Prop} {Qz : (Int → Prop)} (e_v0 : (aA v0) = v0z) (h_Q : ∀ (a0 : Int32), Qz a0.toInt → Q a0) (h : Z_M_readers v0z Qz) : P_M_readers v0 Q := by
  subst e_v0
  unfold Z_M_readers at h
  unfold P_M_readers
  obtain ⟨n7_, h⟩ := h
  refine ⟨n7_, ?_⟩
  refine zL_M_readers_4 n7_ rfl rfl rfl h_Q h

def ZL_M_goLeave_64 : Nat → Int → Int → Int → (Nat → Int) → (Int → (Nat → Int) → Prop) → Prop
  | 0, _, _, _, _, _ => False
  | n + 1, x1, y2, y4, v0, Q => ((15 ≤ y4 → (Z_M_readers v0 (fun r24_ => (Q r24_ v0)))) ∧ (¬ 15 ≤ y4 → zin (y2 + y4) ∧ ((0 : Int) ≤ (y2 + y4) ∧ ((y2 + y4) : Int) < 621) ∧ ((∀ v33_, v33_ = (updz v0 (Int.toNat (y2 + y4)) 0) → (zin (y4 + 1) ∧ (ZL_M_goLeave_64 n x1 y2 (y4 + 1) v33_ Q))))))
set_option maxRecDepth 100000 in
theorem zL_M_goLeave_64 (n : Nat) : ∀ {x1 : Int32} {x1z : Int} {y2 : Int32} {y2z : Int} {y4 : Int32} {y4z : Int} {v0 : Nat → Int32} {v0z : (Nat → Int)}  {Q : Int32 → (Nat → Int32) → Prop} {Qz : (Int → (Nat → Int) → Prop)} (e_x1 : x1.toInt = x1z) (e_y2 : y2.toInt = y2z) (e_y4 : y4.toInt = y4z) (e_v0 : (aA v0) = v0z) (h_Q : ∀ (a0 : Int32) (a1 : Nat → Int32), Qz a0.toInt (aA a1) → Q a0 a1) (h : ZL_M_goLeave_64 n x1z y2z y4z v0z Qz), PL_M_goLeave_64 n x1 y2 y4 v0 Q := by
  induction n with
  | zero =>
    intro x1 x1z y2 y2z y4 y4z v0 v0z Q Qz e_x1 e_y2 e_y4 e_v0 h_Q h
    exact (h : False).elim
  | succ n ih =>
    intro x1 x1z y2 y2z y4 y4z v0 v0z Q Qz e_x1 e_y2 e_y4 e_v0 h_Q h
    subst e_x1
    subst e_y2
    subst e_y4
    subst e_v0
    rw [ZL_M_goLeave_64] at h
    rw [PL_M_goLeave_64]
    refine ⟨fun c4q => ?_, fun c4q => ?_⟩
    · have h := h.1 ((zt_le rfl rfl).mp c4q)
      refine z_M_readers rfl (fun r24_ h => ?_) h
      exact h_Q _ _ h
    · have h := h.2 (fun k => c4q ((zt_le rfl rfl).mpr k))
      obtain ⟨o1q, h⟩ := h
      obtain ⟨i2q, h⟩ := h
      refine ⟨zt_in (show (((y2 + y4) : Int32)).toInt = ((y2.toInt + y4.toInt) : Int) from (zt_add rfl rfl o1q)) i2q, ?_⟩
      intro v33_ ev33_
      have h := h (aA v33_) (by rw [ev33_]; exact (show (aA (upd v0 (Int32.toNatClampNeg (y2 + y4)) 0)) = (updz (aA v0) (Int.toNat (y2.toInt + y4.toInt)) 0) from (zt_upd rfl (show (Int32.toNatClampNeg (y2 + y4)) = (Int.toNat (y2.toInt + y4.toInt)) from (congrArg Int.toNat (show (((y2 + y4) : Int32)).toInt = ((y2.toInt + y4.toInt) : Int) from (zt_add rfl rfl o1q)))) rfl)))
      obtain ⟨o3q, h⟩ := h
      refine ih rfl rfl (show (((y4 + 1) : Int32)).toInt = ((y4.toInt + 1) : Int) from (zt_add rfl rfl o3q)) rfl h_Q h
def ZL_M_goLeave_31 : Nat → Int → Int → Int → Int → (Nat → Int) → (Int → (Nat → Int) → Prop) → Prop
  | 0, _, _, _, _, _, _ => False
  | n + 1, x1, y2, y3, y4, v0, Q => ((8 ≤ y4 → (∃ n36_, (ZL_M_goLeave_64 n36_ x1 y2 0 v0 Q))) ∧ (¬ 8 ≤ y4 → zin (y2 + 7) ∧ zin ((y2 + 7) + y4) ∧ ((0 : Int) ≤ ((y2 + 7) + y4) ∧ (((y2 + 7) + y4) : Int) < 621) ∧ (zin (y3 + 2) ∧ zin ((y3 + 2) + y4) ∧ ((0 : Int) ≤ ((y3 + 2) + y4) ∧ (((y3 + 2) + y4) : Int) < 621) ∧ ((∀ v43_, v43_ = (updz v0 (Int.toNat ((y3 + 2) + y4)) (v0 (Int.toNat ((y2 + 7) + y4)))) → (zin (y4 + 1) ∧ (ZL_M_goLeave_31 n x1 y2 y3 (y4 + 1) v43_ Q)))))))
set_option maxRecDepth 100000 in
theorem zL_M_goLeave_31 (n : Nat) : ∀ {x1 : Int32} {x1z : Int} {y2 : Int32} {y2z : Int} {y3 : Int32} {y3z : Int} {y4 : Int32} {y4z : Int} {v0 : Nat → Int32} {v0z : (Nat → Int)}  {Q : Int32 → (Nat → Int32) → Prop} {Qz : (Int → (Nat → Int) → Prop)} (e_x1 : x1.toInt = x1z) (e_y2 : y2.toInt = y2z) (e_y3 : y3.toInt = y3z) (e_y4 : y4.toInt = y4z) (e_v0 : (aA v0) = v0z) (h_Q : ∀ (a0 : Int32) (a1 : Nat → Int32), Qz a0.toInt (aA a1) → Q a0 a1) (h : ZL_M_goLeave_31 n x1z y2z y3z y4z v0z Qz), PL_M_goLeave_31 n x1 y2 y3 y4 v0 Q := by
  induction n with
  | zero =>
    intro x1 x1z y2 y2z y3 y3z y4 y4z v0 v0z Q Qz e_x1 e_y2 e_y3 e_y4 e_v0 h_Q h
    exact (h : False).elim
  | succ n ih =>
    intro x1 x1z y2 y2z y3 y3z y4 y4z v0 v0z Q Qz e_x1 e_y2 e_y3 e_y4 e_v0 h_Q h
    subst e_x1
    subst e_y2
    subst e_y3
    subst e_y4
    subst e_v0
    rw [ZL_M_goLeave_31] at h
    rw [PL_M_goLeave_31]
    refine ⟨fun c8q => ?_, fun c8q => ?_⟩
    · have h := h.1 ((zt_le rfl rfl).mp c8q)
      obtain ⟨n36_, h⟩ := h
      refine ⟨n36_, ?_⟩
      refine zL_M_goLeave_64 n36_ rfl rfl rfl rfl h_Q h
    · have h := h.2 (fun k => c8q ((zt_le rfl rfl).mpr k))
      obtain ⟨o1q, h⟩ := h
      obtain ⟨o2q, h⟩ := h
      obtain ⟨i3q, h⟩ := h
      refine ⟨zt_in (show ((((y2 + 7) + y4) : Int32)).toInt = (((y2.toInt + 7) + y4.toInt) : Int) from (zt_add (show (((y2 + 7) : Int32)).toInt = ((y2.toInt + 7) : Int) from (zt_add rfl rfl o1q)) rfl o2q)) i3q, ?_⟩
      obtain ⟨o4q, h⟩ := h
      obtain ⟨o5q, h⟩ := h
      obtain ⟨i6q, h⟩ := h
      refine ⟨zt_in (show ((((y3 + 2) + y4) : Int32)).toInt = (((y3.toInt + 2) + y4.toInt) : Int) from (zt_add (show (((y3 + 2) : Int32)).toInt = ((y3.toInt + 2) : Int) from (zt_add rfl rfl o4q)) rfl o5q)) i6q, ?_⟩
      intro v43_ ev43_
      have h := h (aA v43_) (by rw [ev43_]; exact (show (aA (upd v0 (Int32.toNatClampNeg ((y3 + 2) + y4)) (v0 (Int32.toNatClampNeg ((y2 + 7) + y4))))) = (updz (aA v0) (Int.toNat ((y3.toInt + 2) + y4.toInt)) ((aA v0) (Int.toNat ((y2.toInt + 7) + y4.toInt)))) from (zt_upd rfl (show (Int32.toNatClampNeg ((y3 + 2) + y4)) = (Int.toNat ((y3.toInt + 2) + y4.toInt)) from (congrArg Int.toNat (show ((((y3 + 2) + y4) : Int32)).toInt = (((y3.toInt + 2) + y4.toInt) : Int) from (zt_add (show (((y3 + 2) : Int32)).toInt = ((y3.toInt + 2) : Int) from (zt_add rfl rfl o4q)) rfl o5q)))) (show (((v0 (Int32.toNatClampNeg ((y2 + 7) + y4))) : Int32)).toInt = (((aA v0) (Int.toNat ((y2.toInt + 7) + y4.toInt))) : Int) from (congrArg (fun k => (aA v0) k) (show (Int32.toNatClampNeg ((y2 + 7) + y4)) = (Int.toNat ((y2.toInt + 7) + y4.toInt)) from (congrArg Int.toNat (show ((((y2 + 7) + y4) : Int32)).toInt = (((y2.toInt + 7) + y4.toInt) : Int) from (zt_add (show (((y2 + 7) : Int32)).toInt = ((y2.toInt + 7) : Int) from (zt_add rfl rfl o1q)) rfl o2q)))))))))
      obtain ⟨o7q, h⟩ := h
      refine ih rfl rfl rfl (show (((y4 + 1) : Int32)).toInt = ((y4.toInt + 1) : Int) from (zt_add rfl rfl o7q)) rfl h_Q h
def Z_M_goLeave (x1 : Int) (v0 : (Nat → Int)) (Q : (Int → (Nat → Int) → Prop)) : Prop := (Z_M_reader x1 (fun r1_ => zin (10 * x1) ∧ zin (530 + (10 * x1)) ∧ ((0 : Int) ≤ (530 + (10 * x1)) ∧ ((530 + (10 * x1)) : Int) < 621) ∧ ((∀ v10_, v10_ = (updz v0 (Int.toNat (530 + (10 * x1))) 1) → (zin (r1_ + 1) ∧ ((0 : Int) ≤ (r1_ + 1) ∧ ((r1_ + 1) : Int) < 621) ∧ (zin ((530 + (10 * x1)) + 1) ∧ ((0 : Int) ≤ ((530 + (10 * x1)) + 1) ∧ (((530 + (10 * x1)) + 1) : Int) < 621) ∧ ((∀ v19_, v19_ = (updz v10_ (Int.toNat ((530 + (10 * x1)) + 1)) (v10_ (Int.toNat (r1_ + 1)))) → ((∃ n46_, (ZL_M_goLeave_31 n46_ x1 r1_ (530 + (10 * x1)) 0 v19_ Q)))))))))))
set_option maxRecDepth 100000 in
theorem z_M_goLeave {x1 : Int32} {x1z : Int} {v0 : Nat → Int32} {v0z : (Nat → Int)}  {Q : Int32 → (Nat → Int32) → Prop} {Qz : (Int → (Nat → Int) → Prop)} (e_x1 : x1.toInt = x1z) (e_v0 : (aA v0) = v0z) (h_Q : ∀ (a0 : Int32) (a1 : Nat → Int32), Qz a0.toInt (aA a1) → Q a0 a1) (h : Z_M_goLeave x1z v0z Qz) : P_M_goLeave x1 v0 Q := by
  subst e_x1
  subst e_v0
  unfold Z_M_goLeave at h
  unfold P_M_goLeave
  refine z_M_reader rfl (fun r1_ h => ?_) h
  obtain ⟨o1q, h⟩ := h
  obtain ⟨o2q, h⟩ := h
  obtain ⟨i3q, h⟩ := h
  refine ⟨zt_in (show (((530 + (10 * x1)) : Int32)).toInt = ((530 + (10 * x1.toInt)) : Int) from (zt_add rfl (show (((10 * x1) : Int32)).toInt = ((10 * x1.toInt) : Int) from (zt_mul rfl rfl o1q)) o2q)) i3q, ?_⟩
  intro v10_ ev10_
  have h := h (aA v10_) (by rw [ev10_]; exact (show (aA (upd v0 (Int32.toNatClampNeg (530 + (10 * x1))) 1)) = (updz (aA v0) (Int.toNat (530 + (10 * x1.toInt))) 1) from (zt_upd rfl (show (Int32.toNatClampNeg (530 + (10 * x1))) = (Int.toNat (530 + (10 * x1.toInt))) from (congrArg Int.toNat (show (((530 + (10 * x1)) : Int32)).toInt = ((530 + (10 * x1.toInt)) : Int) from (zt_add rfl (show (((10 * x1) : Int32)).toInt = ((10 * x1.toInt) : Int) from (zt_mul rfl rfl o1q)) o2q)))) rfl)))
  obtain ⟨o4q, h⟩ := h
  obtain ⟨i5q, h⟩ := h
  refine ⟨zt_in (show (((r1_ + 1) : Int32)).toInt = ((r1_.toInt + 1) : Int) from (zt_add rfl rfl o4q)) i5q, ?_⟩
  obtain ⟨o6q, h⟩ := h
  obtain ⟨i7q, h⟩ := h
  refine ⟨zt_in (show ((((530 + (10 * x1)) + 1) : Int32)).toInt = (((530 + (10 * x1.toInt)) + 1) : Int) from (zt_add (show (((530 + (10 * x1)) : Int32)).toInt = ((530 + (10 * x1.toInt)) : Int) from (zt_add rfl (show (((10 * x1) : Int32)).toInt = ((10 * x1.toInt) : Int) from (zt_mul rfl rfl o1q)) o2q)) rfl o6q)) i7q, ?_⟩
  intro v19_ ev19_
  have h := h (aA v19_) (by rw [ev19_]; exact (show (aA (upd v10_ (Int32.toNatClampNeg ((530 + (10 * x1)) + 1)) (v10_ (Int32.toNatClampNeg (r1_ + 1))))) = (updz (aA v10_) (Int.toNat ((530 + (10 * x1.toInt)) + 1)) ((aA v10_) (Int.toNat (r1_.toInt + 1)))) from (zt_upd rfl (show (Int32.toNatClampNeg ((530 + (10 * x1)) + 1)) = (Int.toNat ((530 + (10 * x1.toInt)) + 1)) from (congrArg Int.toNat (show ((((530 + (10 * x1)) + 1) : Int32)).toInt = (((530 + (10 * x1.toInt)) + 1) : Int) from (zt_add (show (((530 + (10 * x1)) : Int32)).toInt = ((530 + (10 * x1.toInt)) : Int) from (zt_add rfl (show (((10 * x1) : Int32)).toInt = ((10 * x1.toInt) : Int) from (zt_mul rfl rfl o1q)) o2q)) rfl o6q)))) (show (((v10_ (Int32.toNatClampNeg (r1_ + 1))) : Int32)).toInt = (((aA v10_) (Int.toNat (r1_.toInt + 1))) : Int) from (congrArg (fun k => (aA v10_) k) (show (Int32.toNatClampNeg (r1_ + 1)) = (Int.toNat (r1_.toInt + 1)) from (congrArg Int.toNat (show (((r1_ + 1) : Int32)).toInt = ((r1_.toInt + 1) : Int) from (zt_add rfl rfl o4q)))))))))
  obtain ⟨n46_, h⟩ := h
  refine ⟨n46_, ?_⟩
  refine zL_M_goLeave_31 n46_ rfl rfl (show (((530 + (10 * x1)) : Int32)).toInt = ((530 + (10 * x1.toInt)) : Int) from (zt_add rfl (show (((10 * x1) : Int32)).toInt = ((10 * x1.toInt) : Int) from (zt_mul rfl rfl o1q)) o2q)) rfl rfl h_Q h

def Z_M_hasGap (x1 : Int) (v0 : (Nat → Int)) (Q : (Int → Prop)) : Prop := (Z_M_reader x1 (fun r1_ => zin (r1_ + 1) ∧ ((0 : Int) ≤ (r1_ + 1) ∧ ((r1_ + 1) : Int) < 621) ∧ (((0 : Int) ≤ 400 ∧ (400 : Int) < 621) ∧ ((((v0 (Int.toNat 400)) ≤ (v0 (Int.toNat (r1_ + 1))) → (Q 0)) ∧ (¬ (v0 (Int.toNat 400)) ≤ (v0 (Int.toNat (r1_ + 1))) → (Q 1)))))))
set_option maxRecDepth 100000 in
theorem z_M_hasGap {x1 : Int32} {x1z : Int} {v0 : Nat → Int32} {v0z : (Nat → Int)}  {Q : Int32 → Prop} {Qz : (Int → Prop)} (e_x1 : x1.toInt = x1z) (e_v0 : (aA v0) = v0z) (h_Q : ∀ (a0 : Int32), Qz a0.toInt → Q a0) (h : Z_M_hasGap x1z v0z Qz) : P_M_hasGap x1 v0 Q := by
  subst e_x1
  subst e_v0
  unfold Z_M_hasGap at h
  unfold P_M_hasGap
  refine z_M_reader rfl (fun r1_ h => ?_) h
  obtain ⟨o1q, h⟩ := h
  obtain ⟨i2q, h⟩ := h
  refine ⟨zt_in (show (((r1_ + 1) : Int32)).toInt = ((r1_.toInt + 1) : Int) from (zt_add rfl rfl o1q)) i2q, ?_⟩
  obtain ⟨i3q, h⟩ := h
  refine ⟨zt_in (show (400 : Int32).toInt = 400 from by decide) i3q, ?_⟩
  refine ⟨fun c4q => ?_, fun c4q => ?_⟩
  · have h := h.1 ((zt_le rfl (show (((v0 (Int32.toNatClampNeg (r1_ + 1))) : Int32)).toInt = (((aA v0) (Int.toNat (r1_.toInt + 1))) : Int) from (congrArg (fun k => (aA v0) k) (show (Int32.toNatClampNeg (r1_ + 1)) = (Int.toNat (r1_.toInt + 1)) from (congrArg Int.toNat (show (((r1_ + 1) : Int32)).toInt = ((r1_.toInt + 1) : Int) from (zt_add rfl rfl o1q))))))).mp c4q)
    exact h_Q _ h
  · have h := h.2 (fun k => c4q ((zt_le rfl (show (((v0 (Int32.toNatClampNeg (r1_ + 1))) : Int32)).toInt = (((aA v0) (Int.toNat (r1_.toInt + 1))) : Int) from (congrArg (fun k => (aA v0) k) (show (Int32.toNatClampNeg (r1_ + 1)) = (Int.toNat (r1_.toInt + 1)) from (congrArg Int.toNat (show (((r1_ + 1) : Int32)).toInt = ((r1_.toInt + 1) : Int) from (zt_add rfl rfl o1q))))))).mpr k))
    exact h_Q _ h

def Z_M_canHold (x1 : Int) (x2 : Int) (v0 : (Nat → Int)) (Q : (Int → Prop)) : Prop := ((x2 = 0 → (Q 1)) ∧ (¬ x2 = 0 → (Z_M_hasGap x1 v0 (fun r2_ => ((¬ r2_ = 0 → (Q 0)) ∧ (r2_ = 0 → (Q 1)))))))
set_option maxRecDepth 100000 in
theorem z_M_canHold {x1 : Int32} {x1z : Int} {x2 : Int32} {x2z : Int} {v0 : Nat → Int32} {v0z : (Nat → Int)}  {Q : Int32 → Prop} {Qz : (Int → Prop)} (e_x1 : x1.toInt = x1z) (e_x2 : x2.toInt = x2z) (e_v0 : (aA v0) = v0z) (h_Q : ∀ (a0 : Int32), Qz a0.toInt → Q a0) (h : Z_M_canHold x1z x2z v0z Qz) : P_M_canHold x1 x2 v0 Q := by
  subst e_x1
  subst e_x2
  subst e_v0
  unfold Z_M_canHold at h
  unfold P_M_canHold
  refine ⟨fun c2q => ?_, fun c2q => ?_⟩
  · have h := h.1 ((zt_eq rfl rfl).mp c2q)
    exact h_Q _ h
  · have h := h.2 (fun k => c2q ((zt_eq rfl rfl).mpr k))
    refine z_M_hasGap rfl rfl (fun r2_ h => ?_) h
    refine ⟨fun c1q => ?_, fun c1q => ?_⟩
    · have h := h.1 (fun k => c1q ((zt_eq rfl rfl).mpr k))
      exact h_Q _ h
    · have h := h.2 ((zt_eq rfl rfl).mp c1q)
      exact h_Q _ h

def ZJ_M_goHold_25 (x1 : Int) (x2 : Int) (y3 : Int) (y4 : Int) (u0 : Int) (u1 : Int) (v0 : (Nat → Int)) (Q : (Int → (Nat → Int) → Prop)) : Prop := ((0 : Int) ≤ u1 ∧ (u1 : Int) < 621) ∧ ((∀ v12_, v12_ = (updz v0 (Int.toNat u1) u0) → (zin (y3 + 6) ∧ ((0 : Int) ≤ (y3 + 6) ∧ ((y3 + 6) : Int) < 621) ∧ ((∀ v20_, v20_ = (updz v12_ (Int.toNat (y3 + 6)) 0) → ((Q y4 v20_)))))))
set_option maxRecDepth 100000 in
theorem zJ_M_goHold_25 {x1 : Int32} {x1z : Int} {x2 : Int32} {x2z : Int} {y3 : Int32} {y3z : Int} {y4 : Int32} {y4z : Int} {u0 : Int32} {u0z : Int} {u1 : Int32} {u1z : Int} {v0 : Nat → Int32} {v0z : (Nat → Int)}  {Q : Int32 → (Nat → Int32) → Prop} {Qz : (Int → (Nat → Int) → Prop)} (e_x1 : x1.toInt = x1z) (e_x2 : x2.toInt = x2z) (e_y3 : y3.toInt = y3z) (e_y4 : y4.toInt = y4z) (e_u0 : u0.toInt = u0z) (e_u1 : u1.toInt = u1z) (e_v0 : (aA v0) = v0z) (h_Q : ∀ (a0 : Int32) (a1 : Nat → Int32), Qz a0.toInt (aA a1) → Q a0 a1) (h : ZJ_M_goHold_25 x1z x2z y3z y4z u0z u1z v0z Qz) : PJ_M_goHold_25 x1 x2 y3 y4 u0 u1 v0 Q := by
  subst e_x1
  subst e_x2
  subst e_y3
  subst e_y4
  subst e_u0
  subst e_u1
  subst e_v0
  unfold ZJ_M_goHold_25 at h
  unfold PJ_M_goHold_25
  obtain ⟨i1q, h⟩ := h
  refine ⟨zt_in rfl i1q, ?_⟩
  intro v12_ ev12_
  have h := h (aA v12_) (by rw [ev12_]; exact (show (aA (upd v0 (Int32.toNatClampNeg u1) u0)) = (updz (aA v0) (Int.toNat u1.toInt) u0.toInt) from (zt_upd rfl rfl rfl)))
  obtain ⟨o2q, h⟩ := h
  obtain ⟨i3q, h⟩ := h
  refine ⟨zt_in (show (((y3 + 6) : Int32)).toInt = ((y3.toInt + 6) : Int) from (zt_add rfl rfl o2q)) i3q, ?_⟩
  intro v20_ ev20_
  have h := h (aA v20_) (by rw [ev20_]; exact (show (aA (upd v12_ (Int32.toNatClampNeg (y3 + 6)) 0)) = (updz (aA v12_) (Int.toNat (y3.toInt + 6)) 0) from (zt_upd rfl (show (Int32.toNatClampNeg (y3 + 6)) = (Int.toNat (y3.toInt + 6)) from (congrArg Int.toNat (show (((y3 + 6) : Int32)).toInt = ((y3.toInt + 6) : Int) from (zt_add rfl rfl o2q)))) rfl)))
  exact h_Q _ _ h
def Z_M_goHold (x1 : Int) (x2 : Int) (v0 : (Nat → Int)) (Q : (Int → (Nat → Int) → Prop)) : Prop := (Z_M_reader x1 (fun r1_ => zin (r1_ + 2) ∧ ((0 : Int) ≤ (r1_ + 2) ∧ ((r1_ + 2) : Int) < 621) ∧ (((x2 = 0 → (ZJ_M_goHold_25 x1 x2 r1_ (v0 (Int.toNat (r1_ + 2))) 0 (r1_ + 2) v0 Q)) ∧ (¬ x2 = 0 → (ZJ_M_goHold_25 x1 x2 r1_ (v0 (Int.toNat (r1_ + 2))) 1 (r1_ + 2) v0 Q))))))
set_option maxRecDepth 100000 in
theorem z_M_goHold {x1 : Int32} {x1z : Int} {x2 : Int32} {x2z : Int} {v0 : Nat → Int32} {v0z : (Nat → Int)}  {Q : Int32 → (Nat → Int32) → Prop} {Qz : (Int → (Nat → Int) → Prop)} (e_x1 : x1.toInt = x1z) (e_x2 : x2.toInt = x2z) (e_v0 : (aA v0) = v0z) (h_Q : ∀ (a0 : Int32) (a1 : Nat → Int32), Qz a0.toInt (aA a1) → Q a0 a1) (h : Z_M_goHold x1z x2z v0z Qz) : P_M_goHold x1 x2 v0 Q := by
  subst e_x1
  subst e_x2
  subst e_v0
  unfold Z_M_goHold at h
  unfold P_M_goHold
  refine z_M_reader rfl (fun r1_ h => ?_) h
  obtain ⟨o1q, h⟩ := h
  obtain ⟨i2q, h⟩ := h
  refine ⟨zt_in (show (((r1_ + 2) : Int32)).toInt = ((r1_.toInt + 2) : Int) from (zt_add rfl rfl o1q)) i2q, ?_⟩
  refine ⟨fun c3q => ?_, fun c3q => ?_⟩
  · have h := h.1 ((zt_eq rfl rfl).mp c3q)
    refine zJ_M_goHold_25 rfl rfl rfl (show (((v0 (Int32.toNatClampNeg (r1_ + 2))) : Int32)).toInt = (((aA v0) (Int.toNat (r1_.toInt + 2))) : Int) from (congrArg (fun k => (aA v0) k) (show (Int32.toNatClampNeg (r1_ + 2)) = (Int.toNat (r1_.toInt + 2)) from (congrArg Int.toNat (show (((r1_ + 2) : Int32)).toInt = ((r1_.toInt + 2) : Int) from (zt_add rfl rfl o1q)))))) rfl (show (((r1_ + 2) : Int32)).toInt = ((r1_.toInt + 2) : Int) from (zt_add rfl rfl o1q)) rfl h_Q h
  · have h := h.2 (fun k => c3q ((zt_eq rfl rfl).mpr k))
    refine zJ_M_goHold_25 rfl rfl rfl (show (((v0 (Int32.toNatClampNeg (r1_ + 2))) : Int32)).toInt = (((aA v0) (Int.toNat (r1_.toInt + 2))) : Int) from (congrArg (fun k => (aA v0) k) (show (Int32.toNatClampNeg (r1_ + 2)) = (Int.toNat (r1_.toInt + 2)) from (congrArg Int.toNat (show (((r1_ + 2) : Int32)).toInt = ((r1_.toInt + 2) : Int) from (zt_add rfl rfl o1q)))))) rfl (show (((r1_ + 2) : Int32)).toInt = ((r1_.toInt + 2) : Int) from (zt_add rfl rfl o1q)) rfl h_Q h

def Z_M_put (x1 : Int) (x2 : Int) (v0 : (Nat → Int)) (Q : (Int → (Nat → Int) → Prop)) : Prop := zin (610 + x1) ∧ ((0 : Int) ≤ (610 + x1) ∧ ((610 + x1) : Int) < 621) ∧ (((0 : Int) ≤ (610 + x1) ∧ ((610 + x1) : Int) < 621) ∧ ((∀ v7_, v7_ = (updz v0 (Int.toNat (610 + x1)) x2) → ((Q (v0 (Int.toNat (610 + x1))) v7_)))))
set_option maxRecDepth 100000 in
theorem z_M_put {x1 : Int32} {x1z : Int} {x2 : Int32} {x2z : Int} {v0 : Nat → Int32} {v0z : (Nat → Int)}  {Q : Int32 → (Nat → Int32) → Prop} {Qz : (Int → (Nat → Int) → Prop)} (e_x1 : x1.toInt = x1z) (e_x2 : x2.toInt = x2z) (e_v0 : (aA v0) = v0z) (h_Q : ∀ (a0 : Int32) (a1 : Nat → Int32), Qz a0.toInt (aA a1) → Q a0 a1) (h : Z_M_put x1z x2z v0z Qz) : P_M_put x1 x2 v0 Q := by
  subst e_x1
  subst e_x2
  subst e_v0
  unfold Z_M_put at h
  unfold P_M_put
  obtain ⟨o1q, h⟩ := h
  obtain ⟨i2q, h⟩ := h
  refine ⟨zt_in (show (((610 + x1) : Int32)).toInt = ((610 + x1.toInt) : Int) from (zt_add rfl rfl o1q)) i2q, ?_⟩
  obtain ⟨i3q, h⟩ := h
  refine ⟨zt_in (show (((610 + x1) : Int32)).toInt = ((610 + x1.toInt) : Int) from (zt_add rfl rfl o1q)) i3q, ?_⟩
  intro v7_ ev7_
  have h := h (aA v7_) (by rw [ev7_]; exact (show (aA (upd v0 (Int32.toNatClampNeg (610 + x1)) x2)) = (updz (aA v0) (Int.toNat (610 + x1.toInt)) x2.toInt) from (zt_upd rfl (show (Int32.toNatClampNeg (610 + x1)) = (Int.toNat (610 + x1.toInt)) from (congrArg Int.toNat (show (((610 + x1) : Int32)).toInt = ((610 + x1.toInt) : Int) from (zt_add rfl rfl o1q)))) rfl)))
  exact h_Q _ _ (Eq.mpr (congrArg (fun k => Qz k (aA v7_)) (show (((v0 (Int32.toNatClampNeg (610 + x1))) : Int32)).toInt = (((aA v0) (Int.toNat (610 + x1.toInt))) : Int) from (congrArg (fun k => (aA v0) k) (show (Int32.toNatClampNeg (610 + x1)) = (Int.toNat (610 + x1.toInt)) from (congrArg Int.toNat (show (((610 + x1) : Int32)).toInt = ((610 + x1.toInt) : Int) from (zt_add rfl rfl o1q))))))) h)

def ZL_M_remember_52 : Nat → Int → MZ → (MZ → Prop) → Prop
  | 0, _, _, _ => False
  | n + 1, y1, v0, Q => ((621 ≤ y1 → zin ((Mz_states v0) + 1) ∧ (∀ v8_, v8_ = (Mz_set_states v0 ((Mz_states v0) + 1)) → ((Q v8_)))) ∧ (¬ 621 ≤ y1 → ((0 : Int) ≤ y1 ∧ (y1 : Int) < 621) ∧ (zin (621 * (Mz_states v0)) ∧ zin ((621 * (Mz_states v0)) + y1) ∧ ((0 : Int) ≤ ((621 * (Mz_states v0)) + y1) ∧ (((621 * (Mz_states v0)) + y1) : Int) < 8694) ∧ ((∀ v19_, v19_ = (Mz_set_book v0 (updz (Mz_book v0) (Int.toNat ((621 * (Mz_states v0)) + y1)) (Mz_now v0 (Int.toNat y1)))) → (zin (y1 + 1) ∧ (ZL_M_remember_52 n (y1 + 1) v19_ Q)))))))
set_option maxRecDepth 100000 in
theorem zL_M_remember_52 (n : Nat) : ∀ {y1 : Int32} {y1z : Int} {v0 : MT} {v0z : MZ}  {Q : MT → Prop} {Qz : (MZ → Prop)} (e_y1 : y1.toInt = y1z) (e_v0 : (aM v0) = v0z) (h_Q : ∀ (a0 : MT), Qz (aM a0) → Q a0) (h : ZL_M_remember_52 n y1z v0z Qz), PL_M_remember_52 n y1 v0 Q := by
  induction n with
  | zero =>
    intro y1 y1z v0 v0z Q Qz e_y1 e_v0 h_Q h
    exact (h : False).elim
  | succ n ih =>
    intro y1 y1z v0 v0z Q Qz e_y1 e_v0 h_Q h
    subst e_y1
    subst e_v0
    rw [ZL_M_remember_52] at h
    rw [PL_M_remember_52]
    refine ⟨fun c7q => ?_, fun c7q => ?_⟩
    · have h := h.1 ((zt_le rfl rfl).mp c7q)
      obtain ⟨o1q, h⟩ := h
      intro v8_ ev8_
      have h := h (aM v8_) (by rw [ev8_]; exact (show (aM (M_set_states v0 ((M_states v0) + 1))) = (Mz_set_states (aM v0) ((Mz_states (aM v0)) + 1)) from (congrArg (fun k => Mz_set_states (aM v0) k) (show ((((M_states v0) + 1) : Int32)).toInt = (((Mz_states (aM v0)) + 1) : Int) from (zt_add rfl rfl o1q)))))
      exact h_Q _ h
    · have h := h.2 (fun k => c7q ((zt_le rfl rfl).mpr k))
      obtain ⟨i2q, h⟩ := h
      refine ⟨zt_in rfl i2q, ?_⟩
      obtain ⟨o3q, h⟩ := h
      obtain ⟨o4q, h⟩ := h
      obtain ⟨i5q, h⟩ := h
      refine ⟨zt_in (show ((((621 * (M_states v0)) + y1) : Int32)).toInt = (((621 * (Mz_states (aM v0))) + y1.toInt) : Int) from (zt_add (show (((621 * (M_states v0)) : Int32)).toInt = ((621 * (Mz_states (aM v0))) : Int) from (zt_mul rfl rfl o3q)) rfl o4q)) i5q, ?_⟩
      intro v19_ ev19_
      have h := h (aM v19_) (by rw [ev19_]; exact (show (aM (M_set_book v0 (upd (M_book v0) (Int32.toNatClampNeg ((621 * (M_states v0)) + y1)) (M_now v0 (Int32.toNatClampNeg y1))))) = (Mz_set_book (aM v0) (updz (Mz_book (aM v0)) (Int.toNat ((621 * (Mz_states (aM v0))) + y1.toInt)) (Mz_now (aM v0) (Int.toNat y1.toInt)))) from (congrArg (fun k => Mz_set_book (aM v0) k) (show (aA (upd (M_book v0) (Int32.toNatClampNeg ((621 * (M_states v0)) + y1)) (M_now v0 (Int32.toNatClampNeg y1)))) = (updz (Mz_book (aM v0)) (Int.toNat ((621 * (Mz_states (aM v0))) + y1.toInt)) (Mz_now (aM v0) (Int.toNat y1.toInt))) from (zt_upd rfl (show (Int32.toNatClampNeg ((621 * (M_states v0)) + y1)) = (Int.toNat ((621 * (Mz_states (aM v0))) + y1.toInt)) from (congrArg Int.toNat (show ((((621 * (M_states v0)) + y1) : Int32)).toInt = (((621 * (Mz_states (aM v0))) + y1.toInt) : Int) from (zt_add (show (((621 * (M_states v0)) : Int32)).toInt = ((621 * (Mz_states (aM v0))) : Int) from (zt_mul rfl rfl o3q)) rfl o4q)))) rfl)))))
      obtain ⟨o6q, h⟩ := h
      refine ih (show (((y1 + 1) : Int32)).toInt = ((y1.toInt + 1) : Int) from (zt_add rfl rfl o6q)) rfl h_Q h
def ZL_M_remember_11 : Nat → Int → MZ → (MZ → Prop) → Prop
  | 0, _, _, _ => False
  | n + 1, y1, v0, Q => ((8073 ≤ y1 → zin ((Mz_states v0) - 1) ∧ (∀ v29_, v29_ = (Mz_set_states v0 ((Mz_states v0) - 1)) → ((∃ n32_, (ZL_M_remember_52 n32_ 0 v29_ Q))))) ∧ (¬ 8073 ≤ y1 → zin (621 + y1) ∧ ((0 : Int) ≤ (621 + y1) ∧ ((621 + y1) : Int) < 8694) ∧ (((0 : Int) ≤ y1 ∧ (y1 : Int) < 8694) ∧ ((∀ v41_, v41_ = (Mz_set_book v0 (updz (Mz_book v0) (Int.toNat y1) (Mz_book v0 (Int.toNat (621 + y1))))) → (zin (y1 + 1) ∧ (ZL_M_remember_11 n (y1 + 1) v41_ Q)))))))
set_option maxRecDepth 100000 in
theorem zL_M_remember_11 (n : Nat) : ∀ {y1 : Int32} {y1z : Int} {v0 : MT} {v0z : MZ}  {Q : MT → Prop} {Qz : (MZ → Prop)} (e_y1 : y1.toInt = y1z) (e_v0 : (aM v0) = v0z) (h_Q : ∀ (a0 : MT), Qz (aM a0) → Q a0) (h : ZL_M_remember_11 n y1z v0z Qz), PL_M_remember_11 n y1 v0 Q := by
  induction n with
  | zero =>
    intro y1 y1z v0 v0z Q Qz e_y1 e_v0 h_Q h
    exact (h : False).elim
  | succ n ih =>
    intro y1 y1z v0 v0z Q Qz e_y1 e_v0 h_Q h
    subst e_y1
    subst e_v0
    rw [ZL_M_remember_11] at h
    rw [PL_M_remember_11]
    refine ⟨fun c6q => ?_, fun c6q => ?_⟩
    · have h := h.1 ((zt_le rfl rfl).mp c6q)
      obtain ⟨o1q, h⟩ := h
      intro v29_ ev29_
      have h := h (aM v29_) (by rw [ev29_]; exact (show (aM (M_set_states v0 ((M_states v0) - 1))) = (Mz_set_states (aM v0) ((Mz_states (aM v0)) - 1)) from (congrArg (fun k => Mz_set_states (aM v0) k) (show ((((M_states v0) - 1) : Int32)).toInt = (((Mz_states (aM v0)) - 1) : Int) from (zt_sub rfl rfl o1q)))))
      obtain ⟨n32_, h⟩ := h
      refine ⟨n32_, ?_⟩
      refine zL_M_remember_52 n32_ rfl rfl h_Q h
    · have h := h.2 (fun k => c6q ((zt_le rfl rfl).mpr k))
      obtain ⟨o2q, h⟩ := h
      obtain ⟨i3q, h⟩ := h
      refine ⟨zt_in (show (((621 + y1) : Int32)).toInt = ((621 + y1.toInt) : Int) from (zt_add rfl rfl o2q)) i3q, ?_⟩
      obtain ⟨i4q, h⟩ := h
      refine ⟨zt_in rfl i4q, ?_⟩
      intro v41_ ev41_
      have h := h (aM v41_) (by rw [ev41_]; exact (show (aM (M_set_book v0 (upd (M_book v0) (Int32.toNatClampNeg y1) (M_book v0 (Int32.toNatClampNeg (621 + y1)))))) = (Mz_set_book (aM v0) (updz (Mz_book (aM v0)) (Int.toNat y1.toInt) (Mz_book (aM v0) (Int.toNat (621 + y1.toInt))))) from (congrArg (fun k => Mz_set_book (aM v0) k) (show (aA (upd (M_book v0) (Int32.toNatClampNeg y1) (M_book v0 (Int32.toNatClampNeg (621 + y1))))) = (updz (Mz_book (aM v0)) (Int.toNat y1.toInt) (Mz_book (aM v0) (Int.toNat (621 + y1.toInt)))) from (zt_upd rfl rfl (show (((M_book v0 (Int32.toNatClampNeg (621 + y1))) : Int32)).toInt = ((Mz_book (aM v0) (Int.toNat (621 + y1.toInt))) : Int) from (congrArg (fun k => Mz_book (aM v0) k) (show (Int32.toNatClampNeg (621 + y1)) = (Int.toNat (621 + y1.toInt)) from (congrArg Int.toNat (show (((621 + y1) : Int32)).toInt = ((621 + y1.toInt) : Int) from (zt_add rfl rfl o2q)))))))))))
      obtain ⟨o5q, h⟩ := h
      refine ih (show (((y1 + 1) : Int32)).toInt = ((y1.toInt + 1) : Int) from (zt_add rfl rfl o5q)) rfl h_Q h
def Z_M_remember (v0 : MZ) (Q : (MZ → Prop)) : Prop := ((¬ (Mz_states v0) = 14 → (∃ n22_, (ZL_M_remember_52 n22_ 0 v0 Q))) ∧ ((Mz_states v0) = 14 → (∃ n44_, (ZL_M_remember_11 n44_ 0 v0 Q))))
set_option maxRecDepth 100000 in
theorem z_M_remember {v0 : MT} {v0z : MZ}  {Q : MT → Prop} {Qz : (MZ → Prop)} (e_v0 : (aM v0) = v0z) (h_Q : ∀ (a0 : MT), Qz (aM a0) → Q a0) (h : Z_M_remember v0z Qz) : P_M_remember v0 Q := by
  subst e_v0
  unfold Z_M_remember at h
  unfold P_M_remember
  refine ⟨fun c1q => ?_, fun c1q => ?_⟩
  · have h := h.1 (fun k => c1q ((zt_eq rfl rfl).mpr k))
    obtain ⟨n22_, h⟩ := h
    refine ⟨n22_, ?_⟩
    refine zL_M_remember_52 n22_ rfl rfl h_Q h
  · have h := h.2 ((zt_eq rfl rfl).mp c1q)
    obtain ⟨n44_, h⟩ := h
    refine ⟨n44_, ?_⟩
    refine zL_M_remember_11 n44_ rfl rfl h_Q h

def ZJ_M_append_31 (x1 : Int) (y1 : Int) (u0 : Int) (v0 : MZ) (Q : (Int → MZ → Prop)) : Prop := (Z_M_refused u0 v0 (fun r7_ v11_ => ((r7_ = 0 → ((0 : Int) ≤ (Mz_length v11_) ∧ ((Mz_length v11_) : Int) < 120) ∧ ((∀ v23_, v23_ = (Mz_set_text v11_ (updz (Mz_text v11_) (Int.toNat (Mz_length v11_)) y1)) → (zin ((Mz_length v23_) + 1) ∧ (∀ v31_, v31_ = (Mz_set_length v23_ ((Mz_length v23_) + 1)) → ((Q (Mz_length v31_) v31_))))))) ∧ (¬ r7_ = 0 → (Q 0 v11_)))))
set_option maxRecDepth 100000 in
theorem zJ_M_append_31 {x1 : Int32} {x1z : Int} {y1 : Int32} {y1z : Int} {u0 : Int32} {u0z : Int} {v0 : MT} {v0z : MZ}  {Q : Int32 → MT → Prop} {Qz : (Int → MZ → Prop)} (e_x1 : x1.toInt = x1z) (e_y1 : y1.toInt = y1z) (e_u0 : u0.toInt = u0z) (e_v0 : (aM v0) = v0z) (h_Q : ∀ (a0 : Int32) (a1 : MT), Qz a0.toInt (aM a1) → Q a0 a1) (h : ZJ_M_append_31 x1z y1z u0z v0z Qz) : PJ_M_append_31 x1 y1 u0 v0 Q := by
  subst e_x1
  subst e_y1
  subst e_u0
  subst e_v0
  unfold ZJ_M_append_31 at h
  unfold PJ_M_append_31
  refine z_M_refused rfl rfl (fun r7_ v11_ h => ?_) h
  refine ⟨fun c3q => ?_, fun c3q => ?_⟩
  · have h := h.1 ((zt_eq rfl rfl).mp c3q)
    obtain ⟨i1q, h⟩ := h
    refine ⟨zt_in rfl i1q, ?_⟩
    intro v23_ ev23_
    have h := h (aM v23_) (by rw [ev23_]; exact (show (aM (M_set_text v11_ (upd (M_text v11_) (Int32.toNatClampNeg (M_length v11_)) y1))) = (Mz_set_text (aM v11_) (updz (Mz_text (aM v11_)) (Int.toNat (Mz_length (aM v11_))) y1.toInt)) from (congrArg (fun k => Mz_set_text (aM v11_) k) (show (aA (upd (M_text v11_) (Int32.toNatClampNeg (M_length v11_)) y1)) = (updz (Mz_text (aM v11_)) (Int.toNat (Mz_length (aM v11_))) y1.toInt) from (zt_upd rfl rfl rfl)))))
    obtain ⟨o2q, h⟩ := h
    intro v31_ ev31_
    have h := h (aM v31_) (by rw [ev31_]; exact (show (aM (M_set_length v23_ ((M_length v23_) + 1))) = (Mz_set_length (aM v23_) ((Mz_length (aM v23_)) + 1)) from (congrArg (fun k => Mz_set_length (aM v23_) k) (show ((((M_length v23_) + 1) : Int32)).toInt = (((Mz_length (aM v23_)) + 1) : Int) from (zt_add rfl rfl o2q)))))
    exact h_Q _ _ h
  · have h := h.2 (fun k => c3q ((zt_eq rfl rfl).mpr k))
    exact h_Q _ _ h
def Z_M_append (x1 : Int) (v0 : MZ) (Q : (Int → MZ → Prop)) : Prop := (Z_M_in x1 0 255 (fun r1_ => ((¬ r1_ = 0 → ((¬ (Mz_length v0) = 120 → (ZJ_M_append_31 x1 x1 0 v0 Q)) ∧ ((Mz_length v0) = 120 → (ZJ_M_append_31 x1 x1 2 v0 Q)))) ∧ (r1_ = 0 → (ZJ_M_append_31 x1 x1 1 v0 Q)))))
set_option maxRecDepth 100000 in
theorem z_M_append {x1 : Int32} {x1z : Int} {v0 : MT} {v0z : MZ}  {Q : Int32 → MT → Prop} {Qz : (Int → MZ → Prop)} (e_x1 : x1.toInt = x1z) (e_v0 : (aM v0) = v0z) (h_Q : ∀ (a0 : Int32) (a1 : MT), Qz a0.toInt (aM a1) → Q a0 a1) (h : Z_M_append x1z v0z Qz) : P_M_append x1 v0 Q := by
  subst e_x1
  subst e_v0
  unfold Z_M_append at h
  unfold P_M_append
  refine z_M_in (show (Int32.toInt64 x1).toInt = (x1.toInt : Int) from (zt_i2l rfl)) rfl rfl (fun r1_ h => ?_) h
  refine ⟨fun c2q => ?_, fun c2q => ?_⟩
  · have h := h.1 (fun k => c2q ((zt_eq rfl rfl).mpr k))
    refine ⟨fun c1q => ?_, fun c1q => ?_⟩
    · have h := h.1 (fun k => c1q ((zt_eq rfl rfl).mpr k))
      refine zJ_M_append_31 rfl rfl rfl rfl h_Q h
    · have h := h.2 ((zt_eq rfl rfl).mp c1q)
      refine zJ_M_append_31 rfl rfl rfl rfl h_Q h
  · have h := h.2 ((zt_eq rfl rfl).mp c2q)
    refine zJ_M_append_31 rfl rfl rfl rfl h_Q h

def Z_M_clearText (v0 : MZ) (Q : (Int → MZ → Prop)) : Prop := (∀ v6_, v6_ = (Mz_set_refusal v0 0) → ((∀ v14_, v14_ = (Mz_set_length v6_ 0) → ((Q (Mz_length v6_) v14_)))))
set_option maxRecDepth 100000 in
theorem z_M_clearText {v0 : MT} {v0z : MZ}  {Q : Int32 → MT → Prop} {Qz : (Int → MZ → Prop)} (e_v0 : (aM v0) = v0z) (h_Q : ∀ (a0 : Int32) (a1 : MT), Qz a0.toInt (aM a1) → Q a0 a1) (h : Z_M_clearText v0z Qz) : P_M_clearText v0 Q := by
  subst e_v0
  unfold Z_M_clearText at h
  unfold P_M_clearText
  intro v6_ ev6_
  have h := h (aM v6_) (by rw [ev6_]; exact rfl)
  intro v14_ ev14_
  have h := h (aM v14_) (by rw [ev14_]; exact rfl)
  exact h_Q _ _ h

def Z_M_here (v0 : MZ) (Q : (Int → Prop)) : Prop := (((Mz_length v0) ≤ (Mz_at v0) → (Q (-1))) ∧ (¬ (Mz_length v0) ≤ (Mz_at v0) → ((0 : Int) ≤ (Mz_at v0) ∧ ((Mz_at v0) : Int) < 120) ∧ ((Q (Mz_text v0 (Int.toNat (Mz_at v0)))))))
set_option maxRecDepth 100000 in
theorem z_M_here {v0 : MT} {v0z : MZ}  {Q : Int32 → Prop} {Qz : (Int → Prop)} (e_v0 : (aM v0) = v0z) (h_Q : ∀ (a0 : Int32), Qz a0.toInt → Q a0) (h : Z_M_here v0z Qz) : P_M_here v0 Q := by
  subst e_v0
  unfold Z_M_here at h
  unfold P_M_here
  refine ⟨fun c2q => ?_, fun c2q => ?_⟩
  · have h := h.1 ((zt_le rfl rfl).mp c2q)
    exact h_Q _ h
  · have h := h.2 (fun k => c2q ((zt_le rfl rfl).mpr k))
    obtain ⟨i1q, h⟩ := h
    refine ⟨zt_in rfl i1q, ?_⟩
    exact h_Q _ h

def ZJ_M_take_17 (x1 : Int) (u0 : Int) (v0 : MZ) (Q : (MZ → Prop)) : Prop := (u0 = 0 ∨ u0 = 1) ∧ ((∀ v8_, v8_ = (Mz_set_good v0 u0) → ((((Mz_good v8_) = 0 → zin ((Mz_at v8_) + 0) ∧ (∀ v17_, v17_ = (Mz_set_at v8_ ((Mz_at v8_) + 0)) → ((Q v17_)))) ∧ (¬ (Mz_good v8_) = 0 → zin ((Mz_at v8_) + 1) ∧ (∀ v25_, v25_ = (Mz_set_at v8_ ((Mz_at v8_) + 1)) → ((Q v25_))))))))
set_option maxRecDepth 100000 in
theorem zJ_M_take_17 {x1 : Int32} {x1z : Int} {u0 : Int32} {u0z : Int} {v0 : MT} {v0z : MZ}  {Q : MT → Prop} {Qz : (MZ → Prop)} (e_x1 : x1.toInt = x1z) (e_u0 : u0.toInt = u0z) (e_v0 : (aM v0) = v0z) (h_Q : ∀ (a0 : MT), Qz (aM a0) → Q a0) (h : ZJ_M_take_17 x1z u0z v0z Qz) : PJ_M_take_17 x1 u0 v0 Q := by
  subst e_x1
  subst e_u0
  subst e_v0
  unfold ZJ_M_take_17 at h
  unfold PJ_M_take_17
  obtain ⟨i1q, h⟩ := h
  refine ⟨zt_zb rfl i1q, ?_⟩
  intro v8_ ev8_
  have h := h (aM v8_) (by rw [ev8_]; exact rfl)
  refine ⟨fun c4q => ?_, fun c4q => ?_⟩
  · have h := h.1 ((zt_eq rfl rfl).mp c4q)
    obtain ⟨o2q, h⟩ := h
    intro v17_ ev17_
    have h := h (aM v17_) (by rw [ev17_]; exact (show (aM (M_set_at v8_ ((M_at v8_) + 0))) = (Mz_set_at (aM v8_) ((Mz_at (aM v8_)) + 0)) from (congrArg (fun k => Mz_set_at (aM v8_) k) (show ((((M_at v8_) + 0) : Int32)).toInt = (((Mz_at (aM v8_)) + 0) : Int) from (zt_add rfl rfl o2q)))))
    exact h_Q _ h
  · have h := h.2 (fun k => c4q ((zt_eq rfl rfl).mpr k))
    obtain ⟨o3q, h⟩ := h
    intro v25_ ev25_
    have h := h (aM v25_) (by rw [ev25_]; exact (show (aM (M_set_at v8_ ((M_at v8_) + 1))) = (Mz_set_at (aM v8_) ((Mz_at (aM v8_)) + 1)) from (congrArg (fun k => Mz_set_at (aM v8_) k) (show ((((M_at v8_) + 1) : Int32)).toInt = (((Mz_at (aM v8_)) + 1) : Int) from (zt_add rfl rfl o3q)))))
    exact h_Q _ h
def ZJ_M_take_16 (x1 : Int) (v0 : MZ) (Q : (MZ → Prop)) : Prop := (ZJ_M_take_17 x1 0 v0 Q)
set_option maxRecDepth 100000 in
theorem zJ_M_take_16 {x1 : Int32} {x1z : Int} {v0 : MT} {v0z : MZ}  {Q : MT → Prop} {Qz : (MZ → Prop)} (e_x1 : x1.toInt = x1z) (e_v0 : (aM v0) = v0z) (h_Q : ∀ (a0 : MT), Qz (aM a0) → Q a0) (h : ZJ_M_take_16 x1z v0z Qz) : PJ_M_take_16 x1 v0 Q := by
  subst e_x1
  subst e_v0
  unfold ZJ_M_take_16 at h
  unfold PJ_M_take_16
  refine zJ_M_take_17 rfl rfl rfl h_Q h
def Z_M_take (x1 : Int) (v0 : MZ) (Q : (MZ → Prop)) : Prop := (((Mz_good v0) = 0 → (ZJ_M_take_16 x1 v0 Q)) ∧ (¬ (Mz_good v0) = 0 → ((x1 = 0 → (ZJ_M_take_16 x1 v0 Q)) ∧ (¬ x1 = 0 → (ZJ_M_take_17 x1 1 v0 Q)))))
set_option maxRecDepth 100000 in
theorem z_M_take {x1 : Int32} {x1z : Int} {v0 : MT} {v0z : MZ}  {Q : MT → Prop} {Qz : (MZ → Prop)} (e_x1 : x1.toInt = x1z) (e_v0 : (aM v0) = v0z) (h_Q : ∀ (a0 : MT), Qz (aM a0) → Q a0) (h : Z_M_take x1z v0z Qz) : P_M_take x1 v0 Q := by
  subst e_x1
  subst e_v0
  unfold Z_M_take at h
  unfold P_M_take
  refine ⟨fun c2q => ?_, fun c2q => ?_⟩
  · have h := h.1 ((zt_eq rfl rfl).mp c2q)
    refine zJ_M_take_16 rfl rfl h_Q h
  · have h := h.2 (fun k => c2q ((zt_eq rfl rfl).mpr k))
    refine ⟨fun c1q => ?_, fun c1q => ?_⟩
    · have h := h.1 ((zt_eq rfl rfl).mp c1q)
      refine zJ_M_take_16 rfl rfl h_Q h
    · have h := h.2 (fun k => c1q ((zt_eq rfl rfl).mpr k))
      refine zJ_M_take_17 rfl rfl rfl h_Q h

def Z_M_digit (x1 : Int) (x2 : Int) (v0 : MZ) (Q : (Int → MZ → Prop)) : Prop := (Z_M_here v0 (fun r1_ => zin (r1_ - 48) ∧ (Z_M_in (r1_ - 48) x1 x2 (fun r5_ => (Z_M_take r5_ v0 (fun v13_ => (((Mz_good v13_) = 0 → (Q x1 v13_)) ∧ (¬ (Mz_good v13_) = 0 → (Q (r1_ - 48) v13_)))))))))
set_option maxRecDepth 100000 in
theorem z_M_digit {x1 : Int32} {x1z : Int} {x2 : Int32} {x2z : Int} {v0 : MT} {v0z : MZ}  {Q : Int32 → MT → Prop} {Qz : (Int → MZ → Prop)} (e_x1 : x1.toInt = x1z) (e_x2 : x2.toInt = x2z) (e_v0 : (aM v0) = v0z) (h_Q : ∀ (a0 : Int32) (a1 : MT), Qz a0.toInt (aM a1) → Q a0 a1) (h : Z_M_digit x1z x2z v0z Qz) : P_M_digit x1 x2 v0 Q := by
  subst e_x1
  subst e_x2
  subst e_v0
  unfold Z_M_digit at h
  unfold P_M_digit
  refine z_M_here rfl (fun r1_ h => ?_) h
  obtain ⟨o1q, h⟩ := h
  refine z_M_in (show (Int32.toInt64 (r1_ - 48)).toInt = ((r1_.toInt - 48) : Int) from (zt_i2l (show (((r1_ - 48) : Int32)).toInt = ((r1_.toInt - 48) : Int) from (zt_sub rfl rfl o1q)))) (show (Int32.toInt64 x1).toInt = (x1.toInt : Int) from (zt_i2l rfl)) (show (Int32.toInt64 x2).toInt = (x2.toInt : Int) from (zt_i2l rfl)) (fun r5_ h => ?_) h
  refine z_M_take rfl rfl (fun v13_ h => ?_) h
  refine ⟨fun c2q => ?_, fun c2q => ?_⟩
  · have h := h.1 ((zt_eq rfl rfl).mp c2q)
    exact h_Q _ _ h
  · have h := h.2 (fun k => c2q ((zt_eq rfl rfl).mpr k))
    exact h_Q _ _ (Eq.mpr (congrArg (fun k => Qz k (aM v13_)) (show (((r1_ - 48) : Int32)).toInt = ((r1_.toInt - 48) : Int) from (zt_sub rfl rfl o1q))) h)

def ZJ_M_two_34 (x1 : Int) (x2 : Int) (y2 : Int) (y3 : Int) (u0 : Int) (u2 : Int) (v0 : MZ) (Q : (Int → MZ → Prop)) : Prop := ((¬ y3 = (Int.tdiv y2 10) → (Z_M_digit u0 9 v0 (fun r11_ v15_ => zin (u2 + r11_) ∧ (Q (u2 + r11_) v15_)))) ∧ (y3 = (Int.tdiv y2 10) → (Z_M_digit u0 (Int.tmod y2 10) v0 (fun r19_ v23_ => zin (u2 + r19_) ∧ (Q (u2 + r19_) v23_)))))
set_option maxRecDepth 100000 in
theorem zJ_M_two_34 {x1 : Int32} {x1z : Int} {x2 : Int32} {x2z : Int} {y2 : Int32} {y2z : Int} {y3 : Int32} {y3z : Int} {u0 : Int32} {u0z : Int} {u2 : Int32} {u2z : Int} {v0 : MT} {v0z : MZ}  {Q : Int32 → MT → Prop} {Qz : (Int → MZ → Prop)} (e_x1 : x1.toInt = x1z) (e_x2 : x2.toInt = x2z) (e_y2 : y2.toInt = y2z) (e_y3 : y3.toInt = y3z) (e_u0 : u0.toInt = u0z) (e_u2 : u2.toInt = u2z) (e_v0 : (aM v0) = v0z) (h_Q : ∀ (a0 : Int32) (a1 : MT), Qz a0.toInt (aM a1) → Q a0 a1) (h : ZJ_M_two_34 x1z x2z y2z y3z u0z u2z v0z Qz) : PJ_M_two_34 x1 x2 y2 y3 u0 u2 v0 Q := by
  subst e_x1
  subst e_x2
  subst e_y2
  subst e_y3
  subst e_u0
  subst e_u2
  subst e_v0
  unfold ZJ_M_two_34 at h
  unfold PJ_M_two_34
  refine ⟨fun c3q => ?_, fun c3q => ?_⟩
  · have h := h.1 (fun k => c3q ((zt_eq rfl (show (((y2 / 10) : Int32)).toInt = ((Int.tdiv y2.toInt 10) : Int) from (zt_div rfl rfl (by decide)))).mpr k))
    refine z_M_digit rfl rfl rfl (fun r11_ v15_ h => ?_) h
    obtain ⟨o1q, h⟩ := h
    exact h_Q _ _ (Eq.mpr (congrArg (fun k => Qz k (aM v15_)) (show (((u2 + r11_) : Int32)).toInt = ((u2.toInt + r11_.toInt) : Int) from (zt_add rfl rfl o1q))) h)
  · have h := h.2 ((zt_eq rfl (show (((y2 / 10) : Int32)).toInt = ((Int.tdiv y2.toInt 10) : Int) from (zt_div rfl rfl (by decide)))).mp c3q)
    refine z_M_digit rfl (show (((zrem y2 10) : Int32)).toInt = ((Int.tmod y2.toInt 10) : Int) from (zt_rem rfl rfl (by decide) (by decide))) rfl (fun r19_ v23_ h => ?_) h
    obtain ⟨o2q, h⟩ := h
    exact h_Q _ _ (Eq.mpr (congrArg (fun k => Qz k (aM v23_)) (show (((u2 + r19_) : Int32)).toInt = ((u2.toInt + r19_.toInt) : Int) from (zt_add rfl rfl o2q))) h)
def Z_M_two (x1 : Int) (x2 : Int) (v0 : MZ) (Q : (Int → MZ → Prop)) : Prop := (Z_M_digit (Int.tdiv x1 10) (Int.tdiv x2 10) v0 (fun r1_ v5_ => ((¬ r1_ = (Int.tdiv x1 10) → zin (10 * r1_) ∧ (ZJ_M_two_34 x1 x2 x2 r1_ 0 (10 * r1_) v5_ Q)) ∧ (r1_ = (Int.tdiv x1 10) → zin (10 * r1_) ∧ (ZJ_M_two_34 x1 x2 x2 r1_ (Int.tmod x1 10) (10 * r1_) v5_ Q)))))
set_option maxRecDepth 100000 in
theorem z_M_two {x1 : Int32} {x1z : Int} {x2 : Int32} {x2z : Int} {v0 : MT} {v0z : MZ}  {Q : Int32 → MT → Prop} {Qz : (Int → MZ → Prop)} (e_x1 : x1.toInt = x1z) (e_x2 : x2.toInt = x2z) (e_v0 : (aM v0) = v0z) (h_Q : ∀ (a0 : Int32) (a1 : MT), Qz a0.toInt (aM a1) → Q a0 a1) (h : Z_M_two x1z x2z v0z Qz) : P_M_two x1 x2 v0 Q := by
  subst e_x1
  subst e_x2
  subst e_v0
  unfold Z_M_two at h
  unfold P_M_two
  refine z_M_digit (show (((x1 / 10) : Int32)).toInt = ((Int.tdiv x1.toInt 10) : Int) from (zt_div rfl rfl (by decide))) (show (((x2 / 10) : Int32)).toInt = ((Int.tdiv x2.toInt 10) : Int) from (zt_div rfl rfl (by decide))) rfl (fun r1_ v5_ h => ?_) h
  refine ⟨fun c3q => ?_, fun c3q => ?_⟩
  · have h := h.1 (fun k => c3q ((zt_eq rfl (show (((x1 / 10) : Int32)).toInt = ((Int.tdiv x1.toInt 10) : Int) from (zt_div rfl rfl (by decide)))).mpr k))
    obtain ⟨o1q, h⟩ := h
    refine zJ_M_two_34 rfl rfl rfl rfl rfl (show (((10 * r1_) : Int32)).toInt = ((10 * r1_.toInt) : Int) from (zt_mul rfl rfl o1q)) rfl h_Q h
  · have h := h.2 ((zt_eq rfl (show (((x1 / 10) : Int32)).toInt = ((Int.tdiv x1.toInt 10) : Int) from (zt_div rfl rfl (by decide)))).mp c3q)
    obtain ⟨o2q, h⟩ := h
    refine zJ_M_two_34 rfl rfl rfl rfl (show (((zrem x1 10) : Int32)).toInt = ((Int.tmod x1.toInt 10) : Int) from (zt_rem rfl rfl (by decide) (by decide))) (show (((10 * r1_) : Int32)).toInt = ((10 * r1_.toInt) : Int) from (zt_mul rfl rfl o2q)) rfl h_Q h

def ZJ_M_sign_18 (y1 : Int) (v0 : MZ) (Q : (Int → MZ → Prop)) : Prop := (Z_M_take 1 v0 (fun v10_ => ((¬ y1 = 43 → (Q 0 v10_)) ∧ (y1 = 43 → (Q 1 v10_)))))
set_option maxRecDepth 100000 in
theorem zJ_M_sign_18 {y1 : Int32} {y1z : Int} {v0 : MT} {v0z : MZ}  {Q : Int32 → MT → Prop} {Qz : (Int → MZ → Prop)} (e_y1 : y1.toInt = y1z) (e_v0 : (aM v0) = v0z) (h_Q : ∀ (a0 : Int32) (a1 : MT), Qz a0.toInt (aM a1) → Q a0 a1) (h : ZJ_M_sign_18 y1z v0z Qz) : PJ_M_sign_18 y1 v0 Q := by
  subst e_y1
  subst e_v0
  unfold ZJ_M_sign_18 at h
  unfold PJ_M_sign_18
  refine z_M_take rfl rfl (fun v10_ h => ?_) h
  refine ⟨fun c1q => ?_, fun c1q => ?_⟩
  · have h := h.1 (fun k => c1q ((zt_eq rfl rfl).mpr k))
    exact h_Q _ _ h
  · have h := h.2 ((zt_eq rfl rfl).mp c1q)
    exact h_Q _ _ h
def Z_M_sign (v0 : MZ) (Q : (Int → MZ → Prop)) : Prop := (Z_M_here v0 (fun r1_ => ((r1_ = 43 → (ZJ_M_sign_18 r1_ v0 Q)) ∧ (¬ r1_ = 43 → ((¬ r1_ = 45 → (Z_M_take 0 v0 (fun v20_ => ((¬ r1_ = 43 → (Q 0 v20_)) ∧ (r1_ = 43 → (Q 1 v20_)))))) ∧ (r1_ = 45 → (ZJ_M_sign_18 r1_ v0 Q)))))))
set_option maxRecDepth 100000 in
theorem z_M_sign {v0 : MT} {v0z : MZ}  {Q : Int32 → MT → Prop} {Qz : (Int → MZ → Prop)} (e_v0 : (aM v0) = v0z) (h_Q : ∀ (a0 : Int32) (a1 : MT), Qz a0.toInt (aM a1) → Q a0 a1) (h : Z_M_sign v0z Qz) : P_M_sign v0 Q := by
  subst e_v0
  unfold Z_M_sign at h
  unfold P_M_sign
  refine z_M_here rfl (fun r1_ h => ?_) h
  refine ⟨fun c3q => ?_, fun c3q => ?_⟩
  · have h := h.1 ((zt_eq rfl rfl).mp c3q)
    refine zJ_M_sign_18 rfl rfl h_Q h
  · have h := h.2 (fun k => c3q ((zt_eq rfl rfl).mpr k))
    refine ⟨fun c2q => ?_, fun c2q => ?_⟩
    · have h := h.1 (fun k => c2q ((zt_eq rfl rfl).mpr k))
      refine z_M_take rfl rfl (fun v20_ h => ?_) h
      refine ⟨fun c1q => ?_, fun c1q => ?_⟩
      · have h := h.1 (fun k => c1q ((zt_eq rfl rfl).mpr k))
        exact h_Q _ _ h
      · have h := h.2 ((zt_eq rfl rfl).mp c1q)
        exact h_Q _ _ h
    · have h := h.2 ((zt_eq rfl rfl).mp c2q)
      refine zJ_M_sign_18 rfl rfl h_Q h

def ZJ_M_goes_21 (x1 : Int) (y1 : Int) (u0 : Int) (u1 : Int) (v0 : MZ) (Q : (Int → MZ → Prop)) : Prop := zin (u1 + u0) ∧ (∀ v7_, v7_ = (Mz_set_leftOut v0 (u1 + u0)) → ((((Mz_good v7_) = 0 → (Q 0 v7_)) ∧ (¬ (Mz_good v7_) = 0 → ((y1 = 0 → (Q 0 v7_)) ∧ (¬ y1 = 0 → (Q 1 v7_)))))))
set_option maxRecDepth 100000 in
theorem zJ_M_goes_21 {x1 : Int32} {x1z : Int} {y1 : Int32} {y1z : Int} {u0 : Int32} {u0z : Int} {u1 : Int32} {u1z : Int} {v0 : MT} {v0z : MZ}  {Q : Int32 → MT → Prop} {Qz : (Int → MZ → Prop)} (e_x1 : x1.toInt = x1z) (e_y1 : y1.toInt = y1z) (e_u0 : u0.toInt = u0z) (e_u1 : u1.toInt = u1z) (e_v0 : (aM v0) = v0z) (h_Q : ∀ (a0 : Int32) (a1 : MT), Qz a0.toInt (aM a1) → Q a0 a1) (h : ZJ_M_goes_21 x1z y1z u0z u1z v0z Qz) : PJ_M_goes_21 x1 y1 u0 u1 v0 Q := by
  subst e_x1
  subst e_y1
  subst e_u0
  subst e_u1
  subst e_v0
  unfold ZJ_M_goes_21 at h
  unfold PJ_M_goes_21
  obtain ⟨o1q, h⟩ := h
  intro v7_ ev7_
  have h := h (aM v7_) (by rw [ev7_]; exact (show (aM (M_set_leftOut v0 (u1 + u0))) = (Mz_set_leftOut (aM v0) (u1.toInt + u0.toInt)) from (congrArg (fun k => Mz_set_leftOut (aM v0) k) (show (((u1 + u0) : Int32)).toInt = ((u1.toInt + u0.toInt) : Int) from (zt_add rfl rfl o1q)))))
  refine ⟨fun c3q => ?_, fun c3q => ?_⟩
  · have h := h.1 ((zt_eq rfl rfl).mp c3q)
    exact h_Q _ _ h
  · have h := h.2 (fun k => c3q ((zt_eq rfl rfl).mpr k))
    refine ⟨fun c2q => ?_, fun c2q => ?_⟩
    · have h := h.1 ((zt_eq rfl rfl).mp c2q)
      exact h_Q _ _ h
    · have h := h.2 (fun k => c2q ((zt_eq rfl rfl).mpr k))
      exact h_Q _ _ h
def ZJ_M_goes_20 (x1 : Int) (y1 : Int) (u0 : Int) (v0 : MZ) (Q : (Int → MZ → Prop)) : Prop := (ZJ_M_goes_21 x1 y1 0 u0 v0 Q)
set_option maxRecDepth 100000 in
theorem zJ_M_goes_20 {x1 : Int32} {x1z : Int} {y1 : Int32} {y1z : Int} {u0 : Int32} {u0z : Int} {v0 : MT} {v0z : MZ}  {Q : Int32 → MT → Prop} {Qz : (Int → MZ → Prop)} (e_x1 : x1.toInt = x1z) (e_y1 : y1.toInt = y1z) (e_u0 : u0.toInt = u0z) (e_v0 : (aM v0) = v0z) (h_Q : ∀ (a0 : Int32) (a1 : MT), Qz a0.toInt (aM a1) → Q a0 a1) (h : ZJ_M_goes_20 x1z y1z u0z v0z Qz) : PJ_M_goes_20 x1 y1 u0 v0 Q := by
  subst e_x1
  subst e_y1
  subst e_u0
  subst e_v0
  unfold ZJ_M_goes_20 at h
  unfold PJ_M_goes_20
  refine zJ_M_goes_21 rfl rfl rfl rfl rfl h_Q h
def Z_M_goes (x1 : Int) (v0 : MZ) (Q : (Int → MZ → Prop)) : Prop := (((Mz_good v0) = 0 → (ZJ_M_goes_20 x1 x1 (Mz_leftOut v0) v0 Q)) ∧ (¬ (Mz_good v0) = 0 → ((¬ x1 = 0 → (ZJ_M_goes_20 x1 x1 (Mz_leftOut v0) v0 Q)) ∧ (x1 = 0 → (ZJ_M_goes_21 x1 x1 1 (Mz_leftOut v0) v0 Q)))))
set_option maxRecDepth 100000 in
theorem z_M_goes {x1 : Int32} {x1z : Int} {v0 : MT} {v0z : MZ}  {Q : Int32 → MT → Prop} {Qz : (Int → MZ → Prop)} (e_x1 : x1.toInt = x1z) (e_v0 : (aM v0) = v0z) (h_Q : ∀ (a0 : Int32) (a1 : MT), Qz a0.toInt (aM a1) → Q a0 a1) (h : Z_M_goes x1z v0z Qz) : P_M_goes x1 v0 Q := by
  subst e_x1
  subst e_v0
  unfold Z_M_goes at h
  unfold P_M_goes
  refine ⟨fun c2q => ?_, fun c2q => ?_⟩
  · have h := h.1 ((zt_eq rfl rfl).mp c2q)
    refine zJ_M_goes_20 rfl rfl rfl rfl h_Q h
  · have h := h.2 (fun k => c2q ((zt_eq rfl rfl).mpr k))
    refine ⟨fun c1q => ?_, fun c1q => ?_⟩
    · have h := h.1 (fun k => c1q ((zt_eq rfl rfl).mpr k))
      refine zJ_M_goes_20 rfl rfl rfl rfl h_Q h
    · have h := h.2 ((zt_eq rfl rfl).mp c1q)
      refine zJ_M_goes_21 rfl rfl rfl rfl rfl h_Q h

def ZJ_M_lose_121 (x1 : Int) (y3 : Int) (u0 : Int) (u1 : Int) (v0 : (Nat → Int)) (Q : ((Nat → Int) → Prop)) : Prop := ((0 : Int) ≤ u1 ∧ (u1 : Int) < 621) ∧ ((∀ v28_, v28_ = (updz v0 (Int.toNat u1) u0) → (((y3 = 0 → zin (618 + 1) ∧ ((0 : Int) ≤ (618 + 1) ∧ ((618 + 1) : Int) < 621) ∧ (((0 : Int) ≤ (618 + 1) ∧ ((618 + 1) : Int) < 621) ∧ (zin ((v28_ (Int.toNat (618 + 1))) + 1) ∧ (∀ v38_, v38_ = (updz v28_ (Int.toNat (618 + 1)) ((v28_ (Int.toNat (618 + 1))) + 1)) → ((Q v38_)))))) ∧ (¬ y3 = 0 → zin (618 + 0) ∧ ((0 : Int) ≤ (618 + 0) ∧ ((618 + 0) : Int) < 621) ∧ (((0 : Int) ≤ (618 + 0) ∧ ((618 + 0) : Int) < 621) ∧ (zin ((v28_ (Int.toNat (618 + 0))) + 1) ∧ (∀ v47_, v47_ = (updz v28_ (Int.toNat (618 + 0)) ((v28_ (Int.toNat (618 + 0))) + 1)) → ((Q v47_))))))))))
set_option maxRecDepth 100000 in
theorem zJ_M_lose_121 {x1 : Int32} {x1z : Int} {y3 : Int32} {y3z : Int} {u0 : Int32} {u0z : Int} {u1 : Int32} {u1z : Int} {v0 : Nat → Int32} {v0z : (Nat → Int)}  {Q : (Nat → Int32) → Prop} {Qz : ((Nat → Int) → Prop)} (e_x1 : x1.toInt = x1z) (e_y3 : y3.toInt = y3z) (e_u0 : u0.toInt = u0z) (e_u1 : u1.toInt = u1z) (e_v0 : (aA v0) = v0z) (h_Q : ∀ (a0 : Nat → Int32), Qz (aA a0) → Q a0) (h : ZJ_M_lose_121 x1z y3z u0z u1z v0z Qz) : PJ_M_lose_121 x1 y3 u0 u1 v0 Q := by
  subst e_x1
  subst e_y3
  subst e_u0
  subst e_u1
  subst e_v0
  unfold ZJ_M_lose_121 at h
  unfold PJ_M_lose_121
  obtain ⟨i1q, h⟩ := h
  refine ⟨zt_in rfl i1q, ?_⟩
  intro v28_ ev28_
  have h := h (aA v28_) (by rw [ev28_]; exact (show (aA (upd v0 (Int32.toNatClampNeg u1) u0)) = (updz (aA v0) (Int.toNat u1.toInt) u0.toInt) from (zt_upd rfl rfl rfl)))
  refine ⟨fun c10q => ?_, fun c10q => ?_⟩
  · have h := h.1 ((zt_eq rfl rfl).mp c10q)
    obtain ⟨o2q, h⟩ := h
    obtain ⟨i3q, h⟩ := h
    refine ⟨zt_in (show (((618 + 1) : Int32)).toInt = ((618 + 1) : Int) from (zt_add rfl rfl o2q)) i3q, ?_⟩
    obtain ⟨i4q, h⟩ := h
    refine ⟨zt_in (show (((618 + 1) : Int32)).toInt = ((618 + 1) : Int) from (zt_add rfl rfl o2q)) i4q, ?_⟩
    obtain ⟨o5q, h⟩ := h
    intro v38_ ev38_
    have h := h (aA v38_) (by rw [ev38_]; exact (show (aA (upd v28_ (Int32.toNatClampNeg (618 + 1)) ((v28_ (Int32.toNatClampNeg (618 + 1))) + 1))) = (updz (aA v28_) (Int.toNat (618 + 1)) (((aA v28_) (Int.toNat (618 + 1))) + 1)) from (zt_upd rfl (show (Int32.toNatClampNeg (618 + 1)) = (Int.toNat (618 + 1)) from (congrArg Int.toNat (show (((618 + 1) : Int32)).toInt = ((618 + 1) : Int) from (zt_add rfl rfl o2q)))) (show ((((v28_ (Int32.toNatClampNeg (618 + 1))) + 1) : Int32)).toInt = ((((aA v28_) (Int.toNat (618 + 1))) + 1) : Int) from (zt_add (show (((v28_ (Int32.toNatClampNeg (618 + 1))) : Int32)).toInt = (((aA v28_) (Int.toNat (618 + 1))) : Int) from (congrArg (fun k => (aA v28_) k) (show (Int32.toNatClampNeg (618 + 1)) = (Int.toNat (618 + 1)) from (congrArg Int.toNat (show (((618 + 1) : Int32)).toInt = ((618 + 1) : Int) from (zt_add rfl rfl o2q)))))) rfl o5q)))))
    exact h_Q _ h
  · have h := h.2 (fun k => c10q ((zt_eq rfl rfl).mpr k))
    obtain ⟨o6q, h⟩ := h
    obtain ⟨i7q, h⟩ := h
    refine ⟨zt_in (show (((618 + 0) : Int32)).toInt = ((618 + 0) : Int) from (zt_add rfl rfl o6q)) i7q, ?_⟩
    obtain ⟨i8q, h⟩ := h
    refine ⟨zt_in (show (((618 + 0) : Int32)).toInt = ((618 + 0) : Int) from (zt_add rfl rfl o6q)) i8q, ?_⟩
    obtain ⟨o9q, h⟩ := h
    intro v47_ ev47_
    have h := h (aA v47_) (by rw [ev47_]; exact (show (aA (upd v28_ (Int32.toNatClampNeg (618 + 0)) ((v28_ (Int32.toNatClampNeg (618 + 0))) + 1))) = (updz (aA v28_) (Int.toNat (618 + 0)) (((aA v28_) (Int.toNat (618 + 0))) + 1)) from (zt_upd rfl (show (Int32.toNatClampNeg (618 + 0)) = (Int.toNat (618 + 0)) from (congrArg Int.toNat (show (((618 + 0) : Int32)).toInt = ((618 + 0) : Int) from (zt_add rfl rfl o6q)))) (show ((((v28_ (Int32.toNatClampNeg (618 + 0))) + 1) : Int32)).toInt = ((((aA v28_) (Int.toNat (618 + 0))) + 1) : Int) from (zt_add (show (((v28_ (Int32.toNatClampNeg (618 + 0))) : Int32)).toInt = (((aA v28_) (Int.toNat (618 + 0))) : Int) from (congrArg (fun k => (aA v28_) k) (show (Int32.toNatClampNeg (618 + 0)) = (Int.toNat (618 + 0)) from (congrArg Int.toNat (show (((618 + 0) : Int32)).toInt = ((618 + 0) : Int) from (zt_add rfl rfl o6q)))))) rfl o9q)))))
    exact h_Q _ h
def ZJ_M_lose_101 (x1 : Int) (y2 : Int) (y3 : Int) (v0 : (Nat → Int)) (Q : ((Nat → Int) → Prop)) : Prop := zin (y2 + 2) ∧ ((0 : Int) ≤ (y2 + 2) ∧ ((y2 + 2) : Int) < 621) ∧ ((∀ v19_, v19_ = (updz v0 (Int.toNat (y2 + 2)) 0) → (((y3 = 0 → zin (y2 + 6) ∧ (ZJ_M_lose_121 x1 y3 2 (y2 + 6) v19_ Q)) ∧ (¬ y3 = 0 → zin (y2 + 6) ∧ (ZJ_M_lose_121 x1 y3 1 (y2 + 6) v19_ Q))))))
set_option maxRecDepth 100000 in
theorem zJ_M_lose_101 {x1 : Int32} {x1z : Int} {y2 : Int32} {y2z : Int} {y3 : Int32} {y3z : Int} {v0 : Nat → Int32} {v0z : (Nat → Int)}  {Q : (Nat → Int32) → Prop} {Qz : ((Nat → Int) → Prop)} (e_x1 : x1.toInt = x1z) (e_y2 : y2.toInt = y2z) (e_y3 : y3.toInt = y3z) (e_v0 : (aA v0) = v0z) (h_Q : ∀ (a0 : Nat → Int32), Qz (aA a0) → Q a0) (h : ZJ_M_lose_101 x1z y2z y3z v0z Qz) : PJ_M_lose_101 x1 y2 y3 v0 Q := by
  subst e_x1
  subst e_y2
  subst e_y3
  subst e_v0
  unfold ZJ_M_lose_101 at h
  unfold PJ_M_lose_101
  obtain ⟨o1q, h⟩ := h
  obtain ⟨i2q, h⟩ := h
  refine ⟨zt_in (show (((y2 + 2) : Int32)).toInt = ((y2.toInt + 2) : Int) from (zt_add rfl rfl o1q)) i2q, ?_⟩
  intro v19_ ev19_
  have h := h (aA v19_) (by rw [ev19_]; exact (show (aA (upd v0 (Int32.toNatClampNeg (y2 + 2)) 0)) = (updz (aA v0) (Int.toNat (y2.toInt + 2)) 0) from (zt_upd rfl (show (Int32.toNatClampNeg (y2 + 2)) = (Int.toNat (y2.toInt + 2)) from (congrArg Int.toNat (show (((y2 + 2) : Int32)).toInt = ((y2.toInt + 2) : Int) from (zt_add rfl rfl o1q)))) rfl)))
  refine ⟨fun c5q => ?_, fun c5q => ?_⟩
  · have h := h.1 ((zt_eq rfl rfl).mp c5q)
    obtain ⟨o3q, h⟩ := h
    refine zJ_M_lose_121 rfl rfl rfl (show (((y2 + 6) : Int32)).toInt = ((y2.toInt + 6) : Int) from (zt_add rfl rfl o3q)) rfl h_Q h
  · have h := h.2 (fun k => c5q ((zt_eq rfl rfl).mpr k))
    obtain ⟨o4q, h⟩ := h
    refine zJ_M_lose_121 rfl rfl rfl (show (((y2 + 6) : Int32)).toInt = ((y2.toInt + 6) : Int) from (zt_add rfl rfl o4q)) rfl h_Q h
def ZJ_M_lose_90 (x1 : Int) (y2 : Int) (y3 : Int) (u0 : Int) (v0 : (Nat → Int)) (Q : ((Nat → Int) → Prop)) : Prop := ((¬ y3 = 0 → (ZJ_M_lose_101 x1 y2 y3 v0 Q)) ∧ (y3 = 0 → ((u0 = 0 → (Q v0)) ∧ (¬ u0 = 0 → (ZJ_M_lose_101 x1 y2 y3 v0 Q)))))
set_option maxRecDepth 100000 in
theorem zJ_M_lose_90 {x1 : Int32} {x1z : Int} {y2 : Int32} {y2z : Int} {y3 : Int32} {y3z : Int} {u0 : Int32} {u0z : Int} {v0 : Nat → Int32} {v0z : (Nat → Int)}  {Q : (Nat → Int32) → Prop} {Qz : ((Nat → Int) → Prop)} (e_x1 : x1.toInt = x1z) (e_y2 : y2.toInt = y2z) (e_y3 : y3.toInt = y3z) (e_u0 : u0.toInt = u0z) (e_v0 : (aA v0) = v0z) (h_Q : ∀ (a0 : Nat → Int32), Qz (aA a0) → Q a0) (h : ZJ_M_lose_90 x1z y2z y3z u0z v0z Qz) : PJ_M_lose_90 x1 y2 y3 u0 v0 Q := by
  subst e_x1
  subst e_y2
  subst e_y3
  subst e_u0
  subst e_v0
  unfold ZJ_M_lose_90 at h
  unfold PJ_M_lose_90
  refine ⟨fun c2q => ?_, fun c2q => ?_⟩
  · have h := h.1 (fun k => c2q ((zt_eq rfl rfl).mpr k))
    refine zJ_M_lose_101 rfl rfl rfl rfl h_Q h
  · have h := h.2 ((zt_eq rfl rfl).mp c2q)
    refine ⟨fun c1q => ?_, fun c1q => ?_⟩
    · have h := h.1 ((zt_eq rfl rfl).mp c1q)
      exact h_Q _ h
    · have h := h.2 (fun k => c1q ((zt_eq rfl rfl).mpr k))
      refine zJ_M_lose_101 rfl rfl rfl rfl h_Q h
def ZJ_M_lose_89 (x1 : Int) (y2 : Int) (y3 : Int) (v0 : (Nat → Int)) (Q : ((Nat → Int) → Prop)) : Prop := (ZJ_M_lose_90 x1 y2 y3 0 v0 Q)
set_option maxRecDepth 100000 in
theorem zJ_M_lose_89 {x1 : Int32} {x1z : Int} {y2 : Int32} {y2z : Int} {y3 : Int32} {y3z : Int} {v0 : Nat → Int32} {v0z : (Nat → Int)}  {Q : (Nat → Int32) → Prop} {Qz : ((Nat → Int) → Prop)} (e_x1 : x1.toInt = x1z) (e_y2 : y2.toInt = y2z) (e_y3 : y3.toInt = y3z) (e_v0 : (aA v0) = v0z) (h_Q : ∀ (a0 : Nat → Int32), Qz (aA a0) → Q a0) (h : ZJ_M_lose_89 x1z y2z y3z v0z Qz) : PJ_M_lose_89 x1 y2 y3 v0 Q := by
  subst e_x1
  subst e_y2
  subst e_y3
  subst e_v0
  unfold ZJ_M_lose_89 at h
  unfold PJ_M_lose_89
  refine zJ_M_lose_90 rfl rfl rfl rfl rfl h_Q h
def ZJ_M_lose_57 (x1 : Int) (y2 : Int) (u0 : Int) (v0 : (Nat → Int)) (Q : ((Nat → Int) → Prop)) : Prop := ((0 : Int) ≤ 615 ∧ (615 : Int) < 621) ∧ ((((v0 (Int.toNat 615)) ≤ 0 → (ZJ_M_lose_89 x1 y2 u0 v0 Q)) ∧ (¬ (v0 (Int.toNat 615)) ≤ 0 → ((0 : Int) ≤ 616 ∧ (616 : Int) < 621) ∧ (zin (y2 + 5) ∧ ((0 : Int) ≤ (y2 + 5) ∧ ((y2 + 5) : Int) < 621) ∧ (((0 : Int) ≤ 615 ∧ (615 : Int) < 621) ∧ (zin ((v0 (Int.toNat 616)) - (v0 (Int.toNat (y2 + 5)))) ∧ ((((v0 (Int.toNat 616)) - (v0 (Int.toNat (y2 + 5)))) < (v0 (Int.toNat 615)) → (ZJ_M_lose_89 x1 y2 u0 v0 Q)) ∧ (¬ ((v0 (Int.toNat 616)) - (v0 (Int.toNat (y2 + 5)))) < (v0 (Int.toNat 615)) → (ZJ_M_lose_90 x1 y2 u0 1 v0 Q)))))))))
set_option maxRecDepth 100000 in
theorem zJ_M_lose_57 {x1 : Int32} {x1z : Int} {y2 : Int32} {y2z : Int} {u0 : Int32} {u0z : Int} {v0 : Nat → Int32} {v0z : (Nat → Int)}  {Q : (Nat → Int32) → Prop} {Qz : ((Nat → Int) → Prop)} (e_x1 : x1.toInt = x1z) (e_y2 : y2.toInt = y2z) (e_u0 : u0.toInt = u0z) (e_v0 : (aA v0) = v0z) (h_Q : ∀ (a0 : Nat → Int32), Qz (aA a0) → Q a0) (h : ZJ_M_lose_57 x1z y2z u0z v0z Qz) : PJ_M_lose_57 x1 y2 u0 v0 Q := by
  subst e_x1
  subst e_y2
  subst e_u0
  subst e_v0
  unfold ZJ_M_lose_57 at h
  unfold PJ_M_lose_57
  obtain ⟨i1q, h⟩ := h
  refine ⟨zt_in (show (615 : Int32).toInt = 615 from by decide) i1q, ?_⟩
  refine ⟨fun c8q => ?_, fun c8q => ?_⟩
  · have h := h.1 ((zt_le rfl rfl).mp c8q)
    refine zJ_M_lose_89 rfl rfl rfl rfl h_Q h
  · have h := h.2 (fun k => c8q ((zt_le rfl rfl).mpr k))
    obtain ⟨i2q, h⟩ := h
    refine ⟨zt_in (show (616 : Int32).toInt = 616 from by decide) i2q, ?_⟩
    obtain ⟨o3q, h⟩ := h
    obtain ⟨i4q, h⟩ := h
    refine ⟨zt_in (show (((y2 + 5) : Int32)).toInt = ((y2.toInt + 5) : Int) from (zt_add rfl rfl o3q)) i4q, ?_⟩
    obtain ⟨i5q, h⟩ := h
    refine ⟨zt_in (show (615 : Int32).toInt = 615 from by decide) i5q, ?_⟩
    obtain ⟨o6q, h⟩ := h
    refine ⟨fun c7q => ?_, fun c7q => ?_⟩
    · have h := h.1 ((zt_lt (show ((((v0 (Int32.toNatClampNeg 616)) - (v0 (Int32.toNatClampNeg (y2 + 5)))) : Int32)).toInt = ((((aA v0) (Int.toNat 616)) - ((aA v0) (Int.toNat (y2.toInt + 5)))) : Int) from (zt_sub rfl (show (((v0 (Int32.toNatClampNeg (y2 + 5))) : Int32)).toInt = (((aA v0) (Int.toNat (y2.toInt + 5))) : Int) from (congrArg (fun k => (aA v0) k) (show (Int32.toNatClampNeg (y2 + 5)) = (Int.toNat (y2.toInt + 5)) from (congrArg Int.toNat (show (((y2 + 5) : Int32)).toInt = ((y2.toInt + 5) : Int) from (zt_add rfl rfl o3q)))))) o6q)) rfl).mp c7q)
      refine zJ_M_lose_89 rfl rfl rfl rfl h_Q h
    · have h := h.2 (fun k => c7q ((zt_lt (show ((((v0 (Int32.toNatClampNeg 616)) - (v0 (Int32.toNatClampNeg (y2 + 5)))) : Int32)).toInt = ((((aA v0) (Int.toNat 616)) - ((aA v0) (Int.toNat (y2.toInt + 5)))) : Int) from (zt_sub rfl (show (((v0 (Int32.toNatClampNeg (y2 + 5))) : Int32)).toInt = (((aA v0) (Int.toNat (y2.toInt + 5))) : Int) from (congrArg (fun k => (aA v0) k) (show (Int32.toNatClampNeg (y2 + 5)) = (Int.toNat (y2.toInt + 5)) from (congrArg Int.toNat (show (((y2 + 5) : Int32)).toInt = ((y2.toInt + 5) : Int) from (zt_add rfl rfl o3q)))))) o6q)) rfl).mpr k))
      refine zJ_M_lose_90 rfl rfl rfl rfl rfl h_Q h
def ZJ_M_lose_56 (x1 : Int) (y2 : Int) (v0 : (Nat → Int)) (Q : ((Nat → Int) → Prop)) : Prop := (ZJ_M_lose_57 x1 y2 0 v0 Q)
set_option maxRecDepth 100000 in
theorem zJ_M_lose_56 {x1 : Int32} {x1z : Int} {y2 : Int32} {y2z : Int} {v0 : Nat → Int32} {v0z : (Nat → Int)}  {Q : (Nat → Int32) → Prop} {Qz : ((Nat → Int) → Prop)} (e_x1 : x1.toInt = x1z) (e_y2 : y2.toInt = y2z) (e_v0 : (aA v0) = v0z) (h_Q : ∀ (a0 : Nat → Int32), Qz (aA a0) → Q a0) (h : ZJ_M_lose_56 x1z y2z v0z Qz) : PJ_M_lose_56 x1 y2 v0 Q := by
  subst e_x1
  subst e_y2
  subst e_v0
  unfold ZJ_M_lose_56 at h
  unfold PJ_M_lose_56
  refine zJ_M_lose_57 rfl rfl rfl rfl h_Q h
def Z_M_lose (x1 : Int) (v0 : (Nat → Int)) (Q : ((Nat → Int) → Prop)) : Prop := (Z_M_reader x1 (fun r1_ => zin (r1_ + 0) ∧ ((0 : Int) ≤ (r1_ + 0) ∧ ((r1_ + 0) : Int) < 621) ∧ ((((v0 (Int.toNat (r1_ + 0))) = 0 → (Q v0)) ∧ (¬ (v0 (Int.toNat (r1_ + 0))) = 0 → zin (r1_ + 2) ∧ ((0 : Int) ≤ (r1_ + 2) ∧ ((r1_ + 2) : Int) < 621) ∧ (((¬ (v0 (Int.toNat (r1_ + 2))) = 0 → ((0 : Int) ≤ 614 ∧ (614 : Int) < 621) ∧ ((((v0 (Int.toNat 614)) ≤ 0 → (ZJ_M_lose_56 x1 r1_ v0 Q)) ∧ (¬ (v0 (Int.toNat 614)) ≤ 0 → zin (r1_ + 1) ∧ ((0 : Int) ≤ (r1_ + 1) ∧ ((r1_ + 1) : Int) < 621) ∧ (((0 : Int) ≤ 401 ∧ (401 : Int) < 621) ∧ ((Z_M_sizes (v0 (Int.toNat (r1_ + 1))) (v0 (Int.toNat 401)) v0 (fun r57_ => ((0 : Int) ≤ 614 ∧ (614 : Int) < 621) ∧ (((r57_ ≤ (v0 (Int.toNat 614)) → (ZJ_M_lose_56 x1 r1_ v0 Q)) ∧ (¬ r57_ ≤ (v0 (Int.toNat 614)) → (ZJ_M_lose_57 x1 r1_ 1 v0 Q)))))))))))) ∧ ((v0 (Int.toNat (r1_ + 2))) = 0 → (Q v0)))))))))
set_option maxRecDepth 100000 in
theorem z_M_lose {x1 : Int32} {x1z : Int} {v0 : Nat → Int32} {v0z : (Nat → Int)}  {Q : (Nat → Int32) → Prop} {Qz : ((Nat → Int) → Prop)} (e_x1 : x1.toInt = x1z) (e_v0 : (aA v0) = v0z) (h_Q : ∀ (a0 : Nat → Int32), Qz (aA a0) → Q a0) (h : Z_M_lose x1z v0z Qz) : P_M_lose x1 v0 Q := by
  subst e_x1
  subst e_v0
  unfold Z_M_lose at h
  unfold P_M_lose
  refine z_M_reader rfl (fun r1_ h => ?_) h
  obtain ⟨o1q, h⟩ := h
  obtain ⟨i2q, h⟩ := h
  refine ⟨zt_in (show (((r1_ + 0) : Int32)).toInt = ((r1_.toInt + 0) : Int) from (zt_add rfl rfl o1q)) i2q, ?_⟩
  refine ⟨fun c13q => ?_, fun c13q => ?_⟩
  · have h := h.1 ((zt_eq (show (((v0 (Int32.toNatClampNeg (r1_ + 0))) : Int32)).toInt = (((aA v0) (Int.toNat (r1_.toInt + 0))) : Int) from (congrArg (fun k => (aA v0) k) (show (Int32.toNatClampNeg (r1_ + 0)) = (Int.toNat (r1_.toInt + 0)) from (congrArg Int.toNat (show (((r1_ + 0) : Int32)).toInt = ((r1_.toInt + 0) : Int) from (zt_add rfl rfl o1q)))))) rfl).mp c13q)
    exact h_Q _ h
  · have h := h.2 (fun k => c13q ((zt_eq (show (((v0 (Int32.toNatClampNeg (r1_ + 0))) : Int32)).toInt = (((aA v0) (Int.toNat (r1_.toInt + 0))) : Int) from (congrArg (fun k => (aA v0) k) (show (Int32.toNatClampNeg (r1_ + 0)) = (Int.toNat (r1_.toInt + 0)) from (congrArg Int.toNat (show (((r1_ + 0) : Int32)).toInt = ((r1_.toInt + 0) : Int) from (zt_add rfl rfl o1q)))))) rfl).mpr k))
    obtain ⟨o3q, h⟩ := h
    obtain ⟨i4q, h⟩ := h
    refine ⟨zt_in (show (((r1_ + 2) : Int32)).toInt = ((r1_.toInt + 2) : Int) from (zt_add rfl rfl o3q)) i4q, ?_⟩
    refine ⟨fun c12q => ?_, fun c12q => ?_⟩
    · have h := h.1 (fun k => c12q ((zt_eq (show (((v0 (Int32.toNatClampNeg (r1_ + 2))) : Int32)).toInt = (((aA v0) (Int.toNat (r1_.toInt + 2))) : Int) from (congrArg (fun k => (aA v0) k) (show (Int32.toNatClampNeg (r1_ + 2)) = (Int.toNat (r1_.toInt + 2)) from (congrArg Int.toNat (show (((r1_ + 2) : Int32)).toInt = ((r1_.toInt + 2) : Int) from (zt_add rfl rfl o3q)))))) rfl).mpr k))
      obtain ⟨i5q, h⟩ := h
      refine ⟨zt_in (show (614 : Int32).toInt = 614 from by decide) i5q, ?_⟩
      refine ⟨fun c11q => ?_, fun c11q => ?_⟩
      · have h := h.1 ((zt_le rfl rfl).mp c11q)
        refine zJ_M_lose_56 rfl rfl rfl h_Q h
      · have h := h.2 (fun k => c11q ((zt_le rfl rfl).mpr k))
        obtain ⟨o6q, h⟩ := h
        obtain ⟨i7q, h⟩ := h
        refine ⟨zt_in (show (((r1_ + 1) : Int32)).toInt = ((r1_.toInt + 1) : Int) from (zt_add rfl rfl o6q)) i7q, ?_⟩
        obtain ⟨i8q, h⟩ := h
        refine ⟨zt_in (show (401 : Int32).toInt = 401 from by decide) i8q, ?_⟩
        refine z_M_sizes (show (((v0 (Int32.toNatClampNeg (r1_ + 1))) : Int32)).toInt = (((aA v0) (Int.toNat (r1_.toInt + 1))) : Int) from (congrArg (fun k => (aA v0) k) (show (Int32.toNatClampNeg (r1_ + 1)) = (Int.toNat (r1_.toInt + 1)) from (congrArg Int.toNat (show (((r1_ + 1) : Int32)).toInt = ((r1_.toInt + 1) : Int) from (zt_add rfl rfl o6q)))))) rfl rfl (fun r57_ h => ?_) h
        obtain ⟨i9q, h⟩ := h
        refine ⟨zt_in (show (614 : Int32).toInt = 614 from by decide) i9q, ?_⟩
        refine ⟨fun c10q => ?_, fun c10q => ?_⟩
        · have h := h.1 ((zt_le rfl rfl).mp c10q)
          refine zJ_M_lose_56 rfl rfl rfl h_Q h
        · have h := h.2 (fun k => c10q ((zt_le rfl rfl).mpr k))
          refine zJ_M_lose_57 rfl rfl rfl rfl h_Q h
    · have h := h.2 ((zt_eq (show (((v0 (Int32.toNatClampNeg (r1_ + 2))) : Int32)).toInt = (((aA v0) (Int.toNat (r1_.toInt + 2))) : Int) from (congrArg (fun k => (aA v0) k) (show (Int32.toNatClampNeg (r1_ + 2)) = (Int.toNat (r1_.toInt + 2)) from (congrArg Int.toNat (show (((r1_ + 2) : Int32)).toInt = ((r1_.toInt + 2) : Int) from (zt_add rfl rfl o3q)))))) rfl).mp c12q)
      exact h_Q _ h

def ZL_M_tick_28 : Nat → (Nat → Int) → ((Nat → Int) → Prop) → Prop
  | 0, _, _ => False
  | n + 1, v0, Q => (Z_M_whyStays v0 (fun r11_ => ((¬ r11_ = 0 → (Q v0)) ∧ (r11_ = 0 → (Z_M_drop v0 (fun v20_ => (ZL_M_tick_28 n v20_ Q)))))))
set_option maxRecDepth 100000 in
theorem zL_M_tick_28 (n : Nat) : ∀ {v0 : Nat → Int32} {v0z : (Nat → Int)}  {Q : (Nat → Int32) → Prop} {Qz : ((Nat → Int) → Prop)} (e_v0 : (aA v0) = v0z) (h_Q : ∀ (a0 : Nat → Int32), Qz (aA a0) → Q a0) (h : ZL_M_tick_28 n v0z Qz), PL_M_tick_28 n v0 Q := by
  induction n with
  | zero =>
    intro v0 v0z Q Qz e_v0 h_Q h
    exact (h : False).elim
  | succ n ih =>
    intro v0 v0z Q Qz e_v0 h_Q h
    subst e_v0
    rw [ZL_M_tick_28] at h
    rw [PL_M_tick_28]
    refine z_M_whyStays rfl (fun r11_ h => ?_) h
    refine ⟨fun c1q => ?_, fun c1q => ?_⟩
    · have h := h.1 (fun k => c1q ((zt_eq rfl rfl).mpr k))
      exact h_Q _ h
    · have h := h.2 ((zt_eq rfl rfl).mp c1q)
      refine z_M_drop rfl (fun v20_ h => ?_) h
      refine ih rfl h_Q h
def ZL_M_tick_11 : Nat → Int → (Nat → Int) → ((Nat → Int) → Prop) → Prop
  | 0, _, _, _ => False
  | n + 1, y1, v0, Q => ((8 ≤ y1 → (∃ n24_, (ZL_M_tick_28 n24_ v0 Q))) ∧ (¬ 8 ≤ y1 → (Z_M_lose y1 v0 (fun v29_ => zin (y1 + 1) ∧ (ZL_M_tick_11 n (y1 + 1) v29_ Q)))))
set_option maxRecDepth 100000 in
theorem zL_M_tick_11 (n : Nat) : ∀ {y1 : Int32} {y1z : Int} {v0 : Nat → Int32} {v0z : (Nat → Int)}  {Q : (Nat → Int32) → Prop} {Qz : ((Nat → Int) → Prop)} (e_y1 : y1.toInt = y1z) (e_v0 : (aA v0) = v0z) (h_Q : ∀ (a0 : Nat → Int32), Qz (aA a0) → Q a0) (h : ZL_M_tick_11 n y1z v0z Qz), PL_M_tick_11 n y1 v0 Q := by
  induction n with
  | zero =>
    intro y1 y1z v0 v0z Q Qz e_y1 e_v0 h_Q h
    exact (h : False).elim
  | succ n ih =>
    intro y1 y1z v0 v0z Q Qz e_y1 e_v0 h_Q h
    subst e_y1
    subst e_v0
    rw [ZL_M_tick_11] at h
    rw [PL_M_tick_11]
    refine ⟨fun c2q => ?_, fun c2q => ?_⟩
    · have h := h.1 ((zt_le rfl rfl).mp c2q)
      obtain ⟨n24_, h⟩ := h
      refine ⟨n24_, ?_⟩
      refine zL_M_tick_28 n24_ rfl h_Q h
    · have h := h.2 (fun k => c2q ((zt_le rfl rfl).mpr k))
      refine z_M_lose rfl rfl (fun v29_ h => ?_) h
      obtain ⟨o1q, h⟩ := h
      refine ih (show (((y1 + 1) : Int32)).toInt = ((y1.toInt + 1) : Int) from (zt_add rfl rfl o1q)) rfl h_Q h
def Z_M_tick (v0 : (Nat → Int)) (Q : ((Nat → Int) → Prop)) : Prop := ((0 : Int) ≤ 616 ∧ (616 : Int) < 621) ∧ (((0 : Int) ≤ 616 ∧ (616 : Int) < 621) ∧ (zin ((v0 (Int.toNat 616)) + 1) ∧ (∀ v7_, v7_ = (updz v0 (Int.toNat 616) ((v0 (Int.toNat 616)) + 1)) → ((∃ n33_, (ZL_M_tick_11 n33_ 0 v7_ Q))))))
set_option maxRecDepth 100000 in
theorem z_M_tick {v0 : Nat → Int32} {v0z : (Nat → Int)}  {Q : (Nat → Int32) → Prop} {Qz : ((Nat → Int) → Prop)} (e_v0 : (aA v0) = v0z) (h_Q : ∀ (a0 : Nat → Int32), Qz (aA a0) → Q a0) (h : Z_M_tick v0z Qz) : P_M_tick v0 Q := by
  subst e_v0
  unfold Z_M_tick at h
  unfold P_M_tick
  obtain ⟨i1q, h⟩ := h
  refine ⟨zt_in (show (616 : Int32).toInt = 616 from by decide) i1q, ?_⟩
  obtain ⟨i2q, h⟩ := h
  refine ⟨zt_in (show (616 : Int32).toInt = 616 from by decide) i2q, ?_⟩
  obtain ⟨o3q, h⟩ := h
  intro v7_ ev7_
  have h := h (aA v7_) (by rw [ev7_]; exact (show (aA (upd v0 (Int32.toNatClampNeg 616) ((v0 (Int32.toNatClampNeg 616)) + 1))) = (updz (aA v0) (Int.toNat 616) (((aA v0) (Int.toNat 616)) + 1)) from (zt_upd rfl rfl (show ((((v0 (Int32.toNatClampNeg 616)) + 1) : Int32)).toInt = ((((aA v0) (Int.toNat 616)) + 1) : Int) from (zt_add rfl rfl o3q)))))
  obtain ⟨n33_, h⟩ := h
  refine ⟨n33_, ?_⟩
  refine zL_M_tick_11 n33_ rfl rfl h_Q h

def ZL_M_goTicks_8 : Nat → Int → Int → Int → Int → (Nat → Int) → (Int → (Nat → Int) → Prop) → Prop
  | 0, _, _, _, _, _, _ => False
  | n + 1, x1, y1, y2, y3, v0, Q => ((y1 ≤ y3 → ((0 : Int) ≤ 617 ∧ (617 : Int) < 621) ∧ (zin ((v0 (Int.toNat 617)) - y2) ∧ (Q ((v0 (Int.toNat 617)) - y2) v0))) ∧ (¬ y1 ≤ y3 → (Z_M_tick v0 (fun v8_ => zin (y3 + 1) ∧ (ZL_M_goTicks_8 n x1 y1 y2 (y3 + 1) v8_ Q)))))
set_option maxRecDepth 100000 in
theorem zL_M_goTicks_8 (n : Nat) : ∀ {x1 : Int32} {x1z : Int} {y1 : Int32} {y1z : Int} {y2 : Int32} {y2z : Int} {y3 : Int32} {y3z : Int} {v0 : Nat → Int32} {v0z : (Nat → Int)}  {Q : Int32 → (Nat → Int32) → Prop} {Qz : (Int → (Nat → Int) → Prop)} (e_x1 : x1.toInt = x1z) (e_y1 : y1.toInt = y1z) (e_y2 : y2.toInt = y2z) (e_y3 : y3.toInt = y3z) (e_v0 : (aA v0) = v0z) (h_Q : ∀ (a0 : Int32) (a1 : Nat → Int32), Qz a0.toInt (aA a1) → Q a0 a1) (h : ZL_M_goTicks_8 n x1z y1z y2z y3z v0z Qz), PL_M_goTicks_8 n x1 y1 y2 y3 v0 Q := by
  induction n with
  | zero =>
    intro x1 x1z y1 y1z y2 y2z y3 y3z v0 v0z Q Qz e_x1 e_y1 e_y2 e_y3 e_v0 h_Q h
    exact (h : False).elim
  | succ n ih =>
    intro x1 x1z y1 y1z y2 y2z y3 y3z v0 v0z Q Qz e_x1 e_y1 e_y2 e_y3 e_v0 h_Q h
    subst e_x1
    subst e_y1
    subst e_y2
    subst e_y3
    subst e_v0
    rw [ZL_M_goTicks_8] at h
    rw [PL_M_goTicks_8]
    refine ⟨fun c4q => ?_, fun c4q => ?_⟩
    · have h := h.1 ((zt_le rfl rfl).mp c4q)
      obtain ⟨i1q, h⟩ := h
      refine ⟨zt_in (show (617 : Int32).toInt = 617 from by decide) i1q, ?_⟩
      obtain ⟨o2q, h⟩ := h
      exact h_Q _ _ (Eq.mpr (congrArg (fun k => Qz k (aA v0)) (show ((((v0 (Int32.toNatClampNeg 617)) - y2) : Int32)).toInt = ((((aA v0) (Int.toNat 617)) - y2.toInt) : Int) from (zt_sub rfl rfl o2q))) h)
    · have h := h.2 (fun k => c4q ((zt_le rfl rfl).mpr k))
      refine z_M_tick rfl (fun v8_ h => ?_) h
      obtain ⟨o3q, h⟩ := h
      refine ih rfl rfl rfl (show (((y3 + 1) : Int32)).toInt = ((y3.toInt + 1) : Int) from (zt_add rfl rfl o3q)) rfl h_Q h
def Z_M_goTicks (x1 : Int) (v0 : (Nat → Int)) (Q : (Int → (Nat → Int) → Prop)) : Prop := ((0 : Int) ≤ 617 ∧ (617 : Int) < 621) ∧ ((∃ n12_, (ZL_M_goTicks_8 n12_ x1 x1 (v0 (Int.toNat 617)) 0 v0 Q)))
set_option maxRecDepth 100000 in
theorem z_M_goTicks {x1 : Int32} {x1z : Int} {v0 : Nat → Int32} {v0z : (Nat → Int)}  {Q : Int32 → (Nat → Int32) → Prop} {Qz : (Int → (Nat → Int) → Prop)} (e_x1 : x1.toInt = x1z) (e_v0 : (aA v0) = v0z) (h_Q : ∀ (a0 : Int32) (a1 : Nat → Int32), Qz a0.toInt (aA a1) → Q a0 a1) (h : Z_M_goTicks x1z v0z Qz) : P_M_goTicks x1 v0 Q := by
  subst e_x1
  subst e_v0
  unfold Z_M_goTicks at h
  unfold P_M_goTicks
  obtain ⟨i1q, h⟩ := h
  refine ⟨zt_in (show (617 : Int32).toInt = 617 from by decide) i1q, ?_⟩
  obtain ⟨n12_, h⟩ := h
  refine ⟨n12_, ?_⟩
  refine zL_M_goTicks_8 n12_ rfl rfl rfl rfl rfl h_Q h

def ZJ_M_goWrite_94 (x1 : Int) (x2 : Int) (x3 : Int) (y2 : Int) (y3 : Int) (y4 : Int) (u0 : Int) (u1 : Int) (u2 : Int) (v0 : (Nat → Int)) (Q : (Int → (Nat → Int) → Prop)) : Prop := ((0 : Int) ≤ u2 ∧ (u2 : Int) < 621) ∧ (zin (u1 + u0) ∧ zin (16 * y2) ∧ zin ((u1 + u0) + (16 * y2)) ∧ zin (1600 * y3) ∧ zin (((u1 + u0) + (16 * y2)) + (1600 * y3)) ∧ (∀ v11_, v11_ = (updz v0 (Int.toNat u2) (((u1 + u0) + (16 * y2)) + (1600 * y3))) → (((0 : Int) ≤ 616 ∧ (616 : Int) < 621) ∧ (zin (200 + y4) ∧ ((0 : Int) ≤ (200 + y4) ∧ ((200 + y4) : Int) < 621) ∧ ((∀ v20_, v20_ = (updz v11_ (Int.toNat (200 + y4)) (v11_ (Int.toNat 616))) → (((0 : Int) ≤ 401 ∧ (401 : Int) < 621) ∧ (((0 : Int) ≤ 401 ∧ (401 : Int) < 621) ∧ (zin ((v20_ (Int.toNat 401)) + 1) ∧ (∀ v29_, v29_ = (updz v20_ (Int.toNat 401) ((v20_ (Int.toNat 401)) + 1)) → ((Q y4 v29_))))))))))))
set_option maxRecDepth 100000 in
theorem zJ_M_goWrite_94 {x1 : Int32} {x1z : Int} {x2 : Int32} {x2z : Int} {x3 : Int32} {x3z : Int} {y2 : Int32} {y2z : Int} {y3 : Int32} {y3z : Int} {y4 : Int32} {y4z : Int} {u0 : Int32} {u0z : Int} {u1 : Int32} {u1z : Int} {u2 : Int32} {u2z : Int} {v0 : Nat → Int32} {v0z : (Nat → Int)}  {Q : Int32 → (Nat → Int32) → Prop} {Qz : (Int → (Nat → Int) → Prop)} (e_x1 : x1.toInt = x1z) (e_x2 : x2.toInt = x2z) (e_x3 : x3.toInt = x3z) (e_y2 : y2.toInt = y2z) (e_y3 : y3.toInt = y3z) (e_y4 : y4.toInt = y4z) (e_u0 : u0.toInt = u0z) (e_u1 : u1.toInt = u1z) (e_u2 : u2.toInt = u2z) (e_v0 : (aA v0) = v0z) (h_Q : ∀ (a0 : Int32) (a1 : Nat → Int32), Qz a0.toInt (aA a1) → Q a0 a1) (h : ZJ_M_goWrite_94 x1z x2z x3z y2z y3z y4z u0z u1z u2z v0z Qz) : PJ_M_goWrite_94 x1 x2 x3 y2 y3 y4 u0 u1 u2 v0 Q := by
  subst e_x1
  subst e_x2
  subst e_x3
  subst e_y2
  subst e_y3
  subst e_y4
  subst e_u0
  subst e_u1
  subst e_u2
  subst e_v0
  unfold ZJ_M_goWrite_94 at h
  unfold PJ_M_goWrite_94
  obtain ⟨i1q, h⟩ := h
  refine ⟨zt_in rfl i1q, ?_⟩
  obtain ⟨o2q, h⟩ := h
  obtain ⟨o3q, h⟩ := h
  obtain ⟨o4q, h⟩ := h
  obtain ⟨o5q, h⟩ := h
  obtain ⟨o6q, h⟩ := h
  intro v11_ ev11_
  have h := h (aA v11_) (by rw [ev11_]; exact (show (aA (upd v0 (Int32.toNatClampNeg u2) (((u1 + u0) + (16 * y2)) + (1600 * y3)))) = (updz (aA v0) (Int.toNat u2.toInt) (((u1.toInt + u0.toInt) + (16 * y2.toInt)) + (1600 * y3.toInt))) from (zt_upd rfl rfl (show (((((u1 + u0) + (16 * y2)) + (1600 * y3)) : Int32)).toInt = ((((u1.toInt + u0.toInt) + (16 * y2.toInt)) + (1600 * y3.toInt)) : Int) from (zt_add (show ((((u1 + u0) + (16 * y2)) : Int32)).toInt = (((u1.toInt + u0.toInt) + (16 * y2.toInt)) : Int) from (zt_add (show (((u1 + u0) : Int32)).toInt = ((u1.toInt + u0.toInt) : Int) from (zt_add rfl rfl o2q)) (show (((16 * y2) : Int32)).toInt = ((16 * y2.toInt) : Int) from (zt_mul rfl rfl o3q)) o4q)) (show (((1600 * y3) : Int32)).toInt = ((1600 * y3.toInt) : Int) from (zt_mul rfl rfl o5q)) o6q)))))
  obtain ⟨i7q, h⟩ := h
  refine ⟨zt_in (show (616 : Int32).toInt = 616 from by decide) i7q, ?_⟩
  obtain ⟨o8q, h⟩ := h
  obtain ⟨i9q, h⟩ := h
  refine ⟨zt_in (show (((200 + y4) : Int32)).toInt = ((200 + y4.toInt) : Int) from (zt_add rfl rfl o8q)) i9q, ?_⟩
  intro v20_ ev20_
  have h := h (aA v20_) (by rw [ev20_]; exact (show (aA (upd v11_ (Int32.toNatClampNeg (200 + y4)) (v11_ (Int32.toNatClampNeg 616)))) = (updz (aA v11_) (Int.toNat (200 + y4.toInt)) ((aA v11_) (Int.toNat 616))) from (zt_upd rfl (show (Int32.toNatClampNeg (200 + y4)) = (Int.toNat (200 + y4.toInt)) from (congrArg Int.toNat (show (((200 + y4) : Int32)).toInt = ((200 + y4.toInt) : Int) from (zt_add rfl rfl o8q)))) rfl)))
  obtain ⟨i10q, h⟩ := h
  refine ⟨zt_in (show (401 : Int32).toInt = 401 from by decide) i10q, ?_⟩
  obtain ⟨i11q, h⟩ := h
  refine ⟨zt_in (show (401 : Int32).toInt = 401 from by decide) i11q, ?_⟩
  obtain ⟨o12q, h⟩ := h
  intro v29_ ev29_
  have h := h (aA v29_) (by rw [ev29_]; exact (show (aA (upd v20_ (Int32.toNatClampNeg 401) ((v20_ (Int32.toNatClampNeg 401)) + 1))) = (updz (aA v20_) (Int.toNat 401) (((aA v20_) (Int.toNat 401)) + 1)) from (zt_upd rfl rfl (show ((((v20_ (Int32.toNatClampNeg 401)) + 1) : Int32)).toInt = ((((aA v20_) (Int.toNat 401)) + 1) : Int) from (zt_add rfl rfl o12q)))))
  exact h_Q _ _ h
def ZJ_M_goWrite_77 (x1 : Int) (x2 : Int) (x3 : Int) (y1 : Int) (y2 : Int) (y3 : Int) (y4 : Int) (y5 : Int) (v0 : (Nat → Int)) (Q : (Int → (Nat → Int) → Prop)) : Prop := ((y5 = 0 → zin (0 + y4) ∧ (ZJ_M_goWrite_94 x1 x2 x3 y2 y3 y4 0 y1 (0 + y4) v0 Q)) ∧ (¬ y5 = 0 → zin (0 + y4) ∧ (ZJ_M_goWrite_94 x1 x2 x3 y2 y3 y4 8 y1 (0 + y4) v0 Q)))
set_option maxRecDepth 100000 in
theorem zJ_M_goWrite_77 {x1 : Int32} {x1z : Int} {x2 : Int32} {x2z : Int} {x3 : Int32} {x3z : Int} {y1 : Int32} {y1z : Int} {y2 : Int32} {y2z : Int} {y3 : Int32} {y3z : Int} {y4 : Int32} {y4z : Int} {y5 : Int32} {y5z : Int} {v0 : Nat → Int32} {v0z : (Nat → Int)}  {Q : Int32 → (Nat → Int32) → Prop} {Qz : (Int → (Nat → Int) → Prop)} (e_x1 : x1.toInt = x1z) (e_x2 : x2.toInt = x2z) (e_x3 : x3.toInt = x3z) (e_y1 : y1.toInt = y1z) (e_y2 : y2.toInt = y2z) (e_y3 : y3.toInt = y3z) (e_y4 : y4.toInt = y4z) (e_y5 : y5.toInt = y5z) (e_v0 : (aA v0) = v0z) (h_Q : ∀ (a0 : Int32) (a1 : Nat → Int32), Qz a0.toInt (aA a1) → Q a0 a1) (h : ZJ_M_goWrite_77 x1z x2z x3z y1z y2z y3z y4z y5z v0z Qz) : PJ_M_goWrite_77 x1 x2 x3 y1 y2 y3 y4 y5 v0 Q := by
  subst e_x1
  subst e_x2
  subst e_x3
  subst e_y1
  subst e_y2
  subst e_y3
  subst e_y4
  subst e_y5
  subst e_v0
  unfold ZJ_M_goWrite_77 at h
  unfold PJ_M_goWrite_77
  refine ⟨fun c3q => ?_, fun c3q => ?_⟩
  · have h := h.1 ((zt_eq rfl rfl).mp c3q)
    obtain ⟨o1q, h⟩ := h
    refine zJ_M_goWrite_94 rfl rfl rfl rfl rfl rfl rfl rfl (show (((0 + y4) : Int32)).toInt = ((0 + y4.toInt) : Int) from (zt_add rfl rfl o1q)) rfl h_Q h
  · have h := h.2 (fun k => c3q ((zt_eq rfl rfl).mpr k))
    obtain ⟨o2q, h⟩ := h
    refine zJ_M_goWrite_94 rfl rfl rfl rfl rfl rfl rfl rfl (show (((0 + y4) : Int32)).toInt = ((0 + y4.toInt) : Int) from (zt_add rfl rfl o2q)) rfl h_Q h
def ZJ_M_goWrite_75 (x1 : Int) (x2 : Int) (x3 : Int) (y1 : Int) (y2 : Int) (y3 : Int) (y4 : Int) (u0 : Int) (v0 : (Nat → Int)) (Q : (Int → (Nat → Int) → Prop)) : Prop := (ZJ_M_goWrite_77 x1 x2 x3 y1 y2 y3 y4 u0 v0 Q)
set_option maxRecDepth 100000 in
theorem zJ_M_goWrite_75 {x1 : Int32} {x1z : Int} {x2 : Int32} {x2z : Int} {x3 : Int32} {x3z : Int} {y1 : Int32} {y1z : Int} {y2 : Int32} {y2z : Int} {y3 : Int32} {y3z : Int} {y4 : Int32} {y4z : Int} {u0 : Int32} {u0z : Int} {v0 : Nat → Int32} {v0z : (Nat → Int)}  {Q : Int32 → (Nat → Int32) → Prop} {Qz : (Int → (Nat → Int) → Prop)} (e_x1 : x1.toInt = x1z) (e_x2 : x2.toInt = x2z) (e_x3 : x3.toInt = x3z) (e_y1 : y1.toInt = y1z) (e_y2 : y2.toInt = y2z) (e_y3 : y3.toInt = y3z) (e_y4 : y4.toInt = y4z) (e_u0 : u0.toInt = u0z) (e_v0 : (aA v0) = v0z) (h_Q : ∀ (a0 : Int32) (a1 : Nat → Int32), Qz a0.toInt (aA a1) → Q a0 a1) (h : ZJ_M_goWrite_75 x1z x2z x3z y1z y2z y3z y4z u0z v0z Qz) : PJ_M_goWrite_75 x1 x2 x3 y1 y2 y3 y4 u0 v0 Q := by
  subst e_x1
  subst e_x2
  subst e_x3
  subst e_y1
  subst e_y2
  subst e_y3
  subst e_y4
  subst e_u0
  subst e_v0
  unfold ZJ_M_goWrite_75 at h
  unfold PJ_M_goWrite_75
  refine zJ_M_goWrite_77 rfl rfl rfl rfl rfl rfl rfl rfl rfl h_Q h
def ZJ_M_goWrite_70 (x1 : Int) (x2 : Int) (x3 : Int) (y1 : Int) (y2 : Int) (y3 : Int) (y4 : Int) (v0 : (Nat → Int)) (Q : (Int → (Nat → Int) → Prop)) : Prop := (ZJ_M_goWrite_75 x1 x2 x3 y1 y2 y3 y4 1 v0 Q)
set_option maxRecDepth 100000 in
theorem zJ_M_goWrite_70 {x1 : Int32} {x1z : Int} {x2 : Int32} {x2z : Int} {x3 : Int32} {x3z : Int} {y1 : Int32} {y1z : Int} {y2 : Int32} {y2z : Int} {y3 : Int32} {y3z : Int} {y4 : Int32} {y4z : Int} {v0 : Nat → Int32} {v0z : (Nat → Int)}  {Q : Int32 → (Nat → Int32) → Prop} {Qz : (Int → (Nat → Int) → Prop)} (e_x1 : x1.toInt = x1z) (e_x2 : x2.toInt = x2z) (e_x3 : x3.toInt = x3z) (e_y1 : y1.toInt = y1z) (e_y2 : y2.toInt = y2z) (e_y3 : y3.toInt = y3z) (e_y4 : y4.toInt = y4z) (e_v0 : (aA v0) = v0z) (h_Q : ∀ (a0 : Int32) (a1 : Nat → Int32), Qz a0.toInt (aA a1) → Q a0 a1) (h : ZJ_M_goWrite_70 x1z x2z x3z y1z y2z y3z y4z v0z Qz) : PJ_M_goWrite_70 x1 x2 x3 y1 y2 y3 y4 v0 Q := by
  subst e_x1
  subst e_x2
  subst e_x3
  subst e_y1
  subst e_y2
  subst e_y3
  subst e_y4
  subst e_v0
  unfold ZJ_M_goWrite_70 at h
  unfold PJ_M_goWrite_70
  refine zJ_M_goWrite_75 rfl rfl rfl rfl rfl rfl rfl rfl rfl h_Q h
def ZJ_M_goWrite_22 (x1 : Int) (x2 : Int) (x3 : Int) (y1 : Int) (y2 : Int) (y3 : Int) (y4 : Int) (u0 : Int) (v0 : (Nat → Int)) (Q : (Int → (Nat → Int) → Prop)) : Prop := ((¬ u0 = 0 → (ZJ_M_goWrite_77 x1 x2 x3 y1 y2 y3 y4 u0 v0 Q)) ∧ (u0 = 0 → zin (y4 - 1) ∧ (Z_M_segmentAt (y4 - 1) v0 (fun r32_ => ((0 : Int) ≤ 610 ∧ (610 : Int) < 621) ∧ (zin (y4 - r32_) ∧ (((v0 (Int.toNat 610)) ≤ (y4 - r32_) → (ZJ_M_goWrite_70 x1 x2 x3 y1 y2 y3 y4 v0 Q)) ∧ (¬ (v0 (Int.toNat 610)) ≤ (y4 - r32_) → (Z_M_sizes r32_ y4 v0 (fun r38_ => ((0 : Int) ≤ 611 ∧ (611 : Int) < 621) ∧ (zin (r38_ + y3) ∧ (((r38_ + y3) ≤ (v0 (Int.toNat 611)) → (ZJ_M_goWrite_75 x1 x2 x3 y1 y2 y3 y4 0 v0 Q)) ∧ (¬ (r38_ + y3) ≤ (v0 (Int.toNat 611)) → (ZJ_M_goWrite_70 x1 x2 x3 y1 y2 y3 y4 v0 Q)))))))))))))
set_option maxRecDepth 100000 in
theorem zJ_M_goWrite_22 {x1 : Int32} {x1z : Int} {x2 : Int32} {x2z : Int} {x3 : Int32} {x3z : Int} {y1 : Int32} {y1z : Int} {y2 : Int32} {y2z : Int} {y3 : Int32} {y3z : Int} {y4 : Int32} {y4z : Int} {u0 : Int32} {u0z : Int} {v0 : Nat → Int32} {v0z : (Nat → Int)}  {Q : Int32 → (Nat → Int32) → Prop} {Qz : (Int → (Nat → Int) → Prop)} (e_x1 : x1.toInt = x1z) (e_x2 : x2.toInt = x2z) (e_x3 : x3.toInt = x3z) (e_y1 : y1.toInt = y1z) (e_y2 : y2.toInt = y2z) (e_y3 : y3.toInt = y3z) (e_y4 : y4.toInt = y4z) (e_u0 : u0.toInt = u0z) (e_v0 : (aA v0) = v0z) (h_Q : ∀ (a0 : Int32) (a1 : Nat → Int32), Qz a0.toInt (aA a1) → Q a0 a1) (h : ZJ_M_goWrite_22 x1z x2z x3z y1z y2z y3z y4z u0z v0z Qz) : PJ_M_goWrite_22 x1 x2 x3 y1 y2 y3 y4 u0 v0 Q := by
  subst e_x1
  subst e_x2
  subst e_x3
  subst e_y1
  subst e_y2
  subst e_y3
  subst e_y4
  subst e_u0
  subst e_v0
  unfold ZJ_M_goWrite_22 at h
  unfold PJ_M_goWrite_22
  refine ⟨fun c8q => ?_, fun c8q => ?_⟩
  · have h := h.1 (fun k => c8q ((zt_eq rfl rfl).mpr k))
    refine zJ_M_goWrite_77 rfl rfl rfl rfl rfl rfl rfl rfl rfl h_Q h
  · have h := h.2 ((zt_eq rfl rfl).mp c8q)
    obtain ⟨o1q, h⟩ := h
    refine z_M_segmentAt (show (((y4 - 1) : Int32)).toInt = ((y4.toInt - 1) : Int) from (zt_sub rfl rfl o1q)) rfl (fun r32_ h => ?_) h
    obtain ⟨i2q, h⟩ := h
    refine ⟨zt_in (show (610 : Int32).toInt = 610 from by decide) i2q, ?_⟩
    obtain ⟨o3q, h⟩ := h
    refine ⟨fun c7q => ?_, fun c7q => ?_⟩
    · have h := h.1 ((zt_le rfl (show (((y4 - r32_) : Int32)).toInt = ((y4.toInt - r32_.toInt) : Int) from (zt_sub rfl rfl o3q))).mp c7q)
      refine zJ_M_goWrite_70 rfl rfl rfl rfl rfl rfl rfl rfl h_Q h
    · have h := h.2 (fun k => c7q ((zt_le rfl (show (((y4 - r32_) : Int32)).toInt = ((y4.toInt - r32_.toInt) : Int) from (zt_sub rfl rfl o3q))).mpr k))
      refine z_M_sizes rfl rfl rfl (fun r38_ h => ?_) h
      obtain ⟨i4q, h⟩ := h
      refine ⟨zt_in (show (611 : Int32).toInt = 611 from by decide) i4q, ?_⟩
      obtain ⟨o5q, h⟩ := h
      refine ⟨fun c6q => ?_, fun c6q => ?_⟩
      · have h := h.1 ((zt_le (show (((r38_ + y3) : Int32)).toInt = ((r38_.toInt + y3.toInt) : Int) from (zt_add rfl rfl o5q)) rfl).mp c6q)
        refine zJ_M_goWrite_75 rfl rfl rfl rfl rfl rfl rfl rfl rfl h_Q h
      · have h := h.2 (fun k => c6q ((zt_le (show (((r38_ + y3) : Int32)).toInt = ((r38_.toInt + y3.toInt) : Int) from (zt_add rfl rfl o5q)) rfl).mpr k))
        refine zJ_M_goWrite_70 rfl rfl rfl rfl rfl rfl rfl rfl h_Q h
def Z_M_goWrite (x1 : Int) (x2 : Int) (x3 : Int) (v0 : (Nat → Int)) (Q : (Int → (Nat → Int) → Prop)) : Prop := ((0 : Int) ≤ 401 ∧ (401 : Int) < 621) ∧ (((0 : Int) ≤ 400 ∧ (400 : Int) < 621) ∧ (((¬ (v0 (Int.toNat 400)) = (v0 (Int.toNat 401)) → (ZJ_M_goWrite_22 x1 x2 x3 x1 x2 x3 (v0 (Int.toNat 401)) 0 v0 Q)) ∧ ((v0 (Int.toNat 400)) = (v0 (Int.toNat 401)) → (ZJ_M_goWrite_22 x1 x2 x3 x1 x2 x3 (v0 (Int.toNat 401)) 1 v0 Q)))))
set_option maxRecDepth 100000 in
theorem z_M_goWrite {x1 : Int32} {x1z : Int} {x2 : Int32} {x2z : Int} {x3 : Int32} {x3z : Int} {v0 : Nat → Int32} {v0z : (Nat → Int)}  {Q : Int32 → (Nat → Int32) → Prop} {Qz : (Int → (Nat → Int) → Prop)} (e_x1 : x1.toInt = x1z) (e_x2 : x2.toInt = x2z) (e_x3 : x3.toInt = x3z) (e_v0 : (aA v0) = v0z) (h_Q : ∀ (a0 : Int32) (a1 : Nat → Int32), Qz a0.toInt (aA a1) → Q a0 a1) (h : Z_M_goWrite x1z x2z x3z v0z Qz) : P_M_goWrite x1 x2 x3 v0 Q := by
  subst e_x1
  subst e_x2
  subst e_x3
  subst e_v0
  unfold Z_M_goWrite at h
  unfold P_M_goWrite
  obtain ⟨i1q, h⟩ := h
  refine ⟨zt_in (show (401 : Int32).toInt = 401 from by decide) i1q, ?_⟩
  obtain ⟨i2q, h⟩ := h
  refine ⟨zt_in (show (400 : Int32).toInt = 400 from by decide) i2q, ?_⟩
  refine ⟨fun c3q => ?_, fun c3q => ?_⟩
  · have h := h.1 (fun k => c3q ((zt_eq rfl rfl).mpr k))
    refine zJ_M_goWrite_22 rfl rfl rfl rfl rfl rfl rfl rfl rfl h_Q h
  · have h := h.2 ((zt_eq rfl rfl).mp c3q)
    refine zJ_M_goWrite_22 rfl rfl rfl rfl rfl rfl rfl rfl rfl h_Q h

def ZJ_M_canJoin_26 (x1 : Int) (x2 : Int) (x3 : Int) (v0 : (Nat → Int)) (y2 : Int) (y3 : Int) (y4 : Int) (u0 : Int) (Q : (Int → Prop)) : Prop := ((u0 = 0 → (Q 0)) ∧ (¬ u0 = 0 → ((y2 < 2 → (Q 1)) ∧ (¬ y2 < 2 → ((0 : Int) ≤ y4 ∧ (y4 : Int) < 621) ∧ (((¬ (v0 (Int.toNat y4)) = 1 → (Q 0)) ∧ ((v0 (Int.toNat y4)) = 1 → ((y3 = 0 → (Q 1)) ∧ (¬ y3 = 0 → zin (y4 + 1) ∧ ((0 : Int) ≤ (y4 + 1) ∧ ((y4 + 1) : Int) < 621) ∧ (((0 : Int) ≤ 400 ∧ (400 : Int) < 621) ∧ ((((v0 (Int.toNat (y4 + 1))) < (v0 (Int.toNat 400)) → (Q 0)) ∧ (¬ (v0 (Int.toNat (y4 + 1))) < (v0 (Int.toNat 400)) → (Q 1))))))))))))))
set_option maxRecDepth 100000 in
theorem zJ_M_canJoin_26 {x1 : Int32} {x1z : Int} {x2 : Int32} {x2z : Int} {x3 : Int32} {x3z : Int} {v0 : Nat → Int32} {v0z : (Nat → Int)} {y2 : Int32} {y2z : Int} {y3 : Int32} {y3z : Int} {y4 : Int32} {y4z : Int} {u0 : Int32} {u0z : Int}  {Q : Int32 → Prop} {Qz : (Int → Prop)} (e_x1 : x1.toInt = x1z) (e_x2 : x2.toInt = x2z) (e_x3 : x3.toInt = x3z) (e_v0 : (aA v0) = v0z) (e_y2 : y2.toInt = y2z) (e_y3 : y3.toInt = y3z) (e_y4 : y4.toInt = y4z) (e_u0 : u0.toInt = u0z) (h_Q : ∀ (a0 : Int32), Qz a0.toInt → Q a0) (h : ZJ_M_canJoin_26 x1z x2z x3z v0z y2z y3z y4z u0z Qz) : PJ_M_canJoin_26 x1 x2 x3 v0 y2 y3 y4 u0 Q := by
  subst e_x1
  subst e_x2
  subst e_x3
  subst e_v0
  subst e_y2
  subst e_y3
  subst e_y4
  subst e_u0
  unfold ZJ_M_canJoin_26 at h
  unfold PJ_M_canJoin_26
  refine ⟨fun c9q => ?_, fun c9q => ?_⟩
  · have h := h.1 ((zt_eq rfl rfl).mp c9q)
    exact h_Q _ h
  · have h := h.2 (fun k => c9q ((zt_eq rfl rfl).mpr k))
    refine ⟨fun c8q => ?_, fun c8q => ?_⟩
    · have h := h.1 ((zt_lt rfl rfl).mp c8q)
      exact h_Q _ h
    · have h := h.2 (fun k => c8q ((zt_lt rfl rfl).mpr k))
      obtain ⟨i1q, h⟩ := h
      refine ⟨zt_in rfl i1q, ?_⟩
      refine ⟨fun c7q => ?_, fun c7q => ?_⟩
      · have h := h.1 (fun k => c7q ((zt_eq rfl rfl).mpr k))
        exact h_Q _ h
      · have h := h.2 ((zt_eq rfl rfl).mp c7q)
        refine ⟨fun c6q => ?_, fun c6q => ?_⟩
        · have h := h.1 ((zt_eq rfl rfl).mp c6q)
          exact h_Q _ h
        · have h := h.2 (fun k => c6q ((zt_eq rfl rfl).mpr k))
          obtain ⟨o2q, h⟩ := h
          obtain ⟨i3q, h⟩ := h
          refine ⟨zt_in (show (((y4 + 1) : Int32)).toInt = ((y4.toInt + 1) : Int) from (zt_add rfl rfl o2q)) i3q, ?_⟩
          obtain ⟨i4q, h⟩ := h
          refine ⟨zt_in (show (400 : Int32).toInt = 400 from by decide) i4q, ?_⟩
          refine ⟨fun c5q => ?_, fun c5q => ?_⟩
          · have h := h.1 ((zt_lt (show (((v0 (Int32.toNatClampNeg (y4 + 1))) : Int32)).toInt = (((aA v0) (Int.toNat (y4.toInt + 1))) : Int) from (congrArg (fun k => (aA v0) k) (show (Int32.toNatClampNeg (y4 + 1)) = (Int.toNat (y4.toInt + 1)) from (congrArg Int.toNat (show (((y4 + 1) : Int32)).toInt = ((y4.toInt + 1) : Int) from (zt_add rfl rfl o2q)))))) rfl).mp c5q)
            exact h_Q _ h
          · have h := h.2 (fun k => c5q ((zt_lt (show (((v0 (Int32.toNatClampNeg (y4 + 1))) : Int32)).toInt = (((aA v0) (Int.toNat (y4.toInt + 1))) : Int) from (congrArg (fun k => (aA v0) k) (show (Int32.toNatClampNeg (y4 + 1)) = (Int.toNat (y4.toInt + 1)) from (congrArg Int.toNat (show (((y4 + 1) : Int32)).toInt = ((y4.toInt + 1) : Int) from (zt_add rfl rfl o2q)))))) rfl).mpr k))
            exact h_Q _ h
def Z_M_canJoin (x1 : Int) (x2 : Int) (x3 : Int) (v0 : (Nat → Int)) (Q : (Int → Prop)) : Prop := (Z_M_reader x1 (fun r1_ => zin (r1_ + 0) ∧ ((0 : Int) ≤ (r1_ + 0) ∧ ((r1_ + 0) : Int) < 621) ∧ (((¬ (v0 (Int.toNat (r1_ + 0))) = 0 → zin (10 * x1) ∧ zin (530 + (10 * x1)) ∧ (ZJ_M_canJoin_26 x1 x2 x3 v0 x2 x3 (530 + (10 * x1)) 0 Q)) ∧ ((v0 (Int.toNat (r1_ + 0))) = 0 → zin (10 * x1) ∧ zin (530 + (10 * x1)) ∧ (ZJ_M_canJoin_26 x1 x2 x3 v0 x2 x3 (530 + (10 * x1)) 1 Q))))))
set_option maxRecDepth 100000 in
theorem z_M_canJoin {x1 : Int32} {x1z : Int} {x2 : Int32} {x2z : Int} {x3 : Int32} {x3z : Int} {v0 : Nat → Int32} {v0z : (Nat → Int)}  {Q : Int32 → Prop} {Qz : (Int → Prop)} (e_x1 : x1.toInt = x1z) (e_x2 : x2.toInt = x2z) (e_x3 : x3.toInt = x3z) (e_v0 : (aA v0) = v0z) (h_Q : ∀ (a0 : Int32), Qz a0.toInt → Q a0) (h : Z_M_canJoin x1z x2z x3z v0z Qz) : P_M_canJoin x1 x2 x3 v0 Q := by
  subst e_x1
  subst e_x2
  subst e_x3
  subst e_v0
  unfold Z_M_canJoin at h
  unfold P_M_canJoin
  refine z_M_reader rfl (fun r1_ h => ?_) h
  obtain ⟨o1q, h⟩ := h
  obtain ⟨i2q, h⟩ := h
  refine ⟨zt_in (show (((r1_ + 0) : Int32)).toInt = ((r1_.toInt + 0) : Int) from (zt_add rfl rfl o1q)) i2q, ?_⟩
  refine ⟨fun c7q => ?_, fun c7q => ?_⟩
  · have h := h.1 (fun k => c7q ((zt_eq (show (((v0 (Int32.toNatClampNeg (r1_ + 0))) : Int32)).toInt = (((aA v0) (Int.toNat (r1_.toInt + 0))) : Int) from (congrArg (fun k => (aA v0) k) (show (Int32.toNatClampNeg (r1_ + 0)) = (Int.toNat (r1_.toInt + 0)) from (congrArg Int.toNat (show (((r1_ + 0) : Int32)).toInt = ((r1_.toInt + 0) : Int) from (zt_add rfl rfl o1q)))))) rfl).mpr k))
    obtain ⟨o3q, h⟩ := h
    obtain ⟨o4q, h⟩ := h
    refine zJ_M_canJoin_26 rfl rfl rfl rfl rfl rfl (show (((530 + (10 * x1)) : Int32)).toInt = ((530 + (10 * x1.toInt)) : Int) from (zt_add rfl (show (((10 * x1) : Int32)).toInt = ((10 * x1.toInt) : Int) from (zt_mul rfl rfl o3q)) o4q)) rfl h_Q h
  · have h := h.2 ((zt_eq (show (((v0 (Int32.toNatClampNeg (r1_ + 0))) : Int32)).toInt = (((aA v0) (Int.toNat (r1_.toInt + 0))) : Int) from (congrArg (fun k => (aA v0) k) (show (Int32.toNatClampNeg (r1_ + 0)) = (Int.toNat (r1_.toInt + 0)) from (congrArg Int.toNat (show (((r1_ + 0) : Int32)).toInt = ((r1_.toInt + 0) : Int) from (zt_add rfl rfl o1q)))))) rfl).mp c7q)
    obtain ⟨o5q, h⟩ := h
    obtain ⟨o6q, h⟩ := h
    refine zJ_M_canJoin_26 rfl rfl rfl rfl rfl rfl (show (((530 + (10 * x1)) : Int32)).toInt = ((530 + (10 * x1.toInt)) : Int) from (zt_add rfl (show (((10 * x1) : Int32)).toInt = ((10 * x1.toInt) : Int) from (zt_mul rfl rfl o5q)) o6q)) rfl h_Q h

def ZL_M_goJoin_111 : Nat → Int → Int → Int → Int → Int → Int → Int → (Nat → Int) → (Int → (Nat → Int) → Prop) → Prop
  | 0, _, _, _, _, _, _, _, _, _ => False
  | n + 1, x1, x2, x3, y2, y4, y5, y6, v0, Q => ((8 ≤ y6 → zin (y4 + 1) ∧ ((0 : Int) ≤ (y4 + 1) ∧ ((y4 + 1) : Int) < 621) ∧ ((Q (v0 (Int.toNat (y4 + 1))) v0))) ∧ (¬ 8 ≤ y6 → ((¬ y2 = 0 → ((¬ y2 = 1 → zin (y5 + 2) ∧ zin ((y5 + 2) + y6) ∧ ((0 : Int) ≤ ((y5 + 2) + y6) ∧ (((y5 + 2) + y6) : Int) < 621) ∧ (zin (y4 + 7) ∧ zin ((y4 + 7) + y6) ∧ ((0 : Int) ≤ ((y4 + 7) + y6) ∧ (((y4 + 7) + y6) : Int) < 621) ∧ ((∀ v76_, v76_ = (updz v0 (Int.toNat ((y4 + 7) + y6)) (v0 (Int.toNat ((y5 + 2) + y6)))) → (zin (y6 + 1) ∧ (ZL_M_goJoin_111 n x1 x2 x3 y2 y4 y5 (y6 + 1) v76_ Q)))))) ∧ (y2 = 1 → ((0 : Int) ≤ 401 ∧ (401 : Int) < 621) ∧ ((Z_M_told y6 (v0 (Int.toNat 401)) v0 (fun r80_ => zin (y4 + 7) ∧ zin ((y4 + 7) + y6) ∧ ((0 : Int) ≤ ((y4 + 7) + y6) ∧ (((y4 + 7) + y6) : Int) < 621) ∧ ((∀ v89_, v89_ = (updz v0 (Int.toNat ((y4 + 7) + y6)) r80_) → (zin (y6 + 1) ∧ (ZL_M_goJoin_111 n x1 x2 x3 y2 y4 y5 (y6 + 1) v89_ Q)))))))))) ∧ (y2 = 0 → zin (402 + y6) ∧ ((0 : Int) ≤ (402 + y6) ∧ ((402 + y6) : Int) < 621) ∧ (zin (y4 + 7) ∧ zin ((y4 + 7) + y6) ∧ ((0 : Int) ≤ ((y4 + 7) + y6) ∧ (((y4 + 7) + y6) : Int) < 621) ∧ ((∀ v98_, v98_ = (updz v0 (Int.toNat ((y4 + 7) + y6)) (v0 (Int.toNat (402 + y6)))) → (zin (y6 + 1) ∧ (ZL_M_goJoin_111 n x1 x2 x3 y2 y4 y5 (y6 + 1) v98_ Q)))))))))
set_option maxRecDepth 100000 in
theorem zL_M_goJoin_111 (n : Nat) : ∀ {x1 : Int32} {x1z : Int} {x2 : Int32} {x2z : Int} {x3 : Int32} {x3z : Int} {y2 : Int32} {y2z : Int} {y4 : Int32} {y4z : Int} {y5 : Int32} {y5z : Int} {y6 : Int32} {y6z : Int} {v0 : Nat → Int32} {v0z : (Nat → Int)}  {Q : Int32 → (Nat → Int32) → Prop} {Qz : (Int → (Nat → Int) → Prop)} (e_x1 : x1.toInt = x1z) (e_x2 : x2.toInt = x2z) (e_x3 : x3.toInt = x3z) (e_y2 : y2.toInt = y2z) (e_y4 : y4.toInt = y4z) (e_y5 : y5.toInt = y5z) (e_y6 : y6.toInt = y6z) (e_v0 : (aA v0) = v0z) (h_Q : ∀ (a0 : Int32) (a1 : Nat → Int32), Qz a0.toInt (aA a1) → Q a0 a1) (h : ZL_M_goJoin_111 n x1z x2z x3z y2z y4z y5z y6z v0z Qz), PL_M_goJoin_111 n x1 x2 x3 y2 y4 y5 y6 v0 Q := by
  induction n with
  | zero =>
    intro x1 x1z x2 x2z x3 x3z y2 y2z y4 y4z y5 y5z y6 y6z v0 v0z Q Qz e_x1 e_x2 e_x3 e_y2 e_y4 e_y5 e_y6 e_v0 h_Q h
    exact (h : False).elim
  | succ n ih =>
    intro x1 x1z x2 x2z x3 x3z y2 y2z y4 y4z y5 y5z y6 y6z v0 v0z Q Qz e_x1 e_x2 e_x3 e_y2 e_y4 e_y5 e_y6 e_v0 h_Q h
    subst e_x1
    subst e_x2
    subst e_x3
    subst e_y2
    subst e_y4
    subst e_y5
    subst e_y6
    subst e_v0
    rw [ZL_M_goJoin_111] at h
    rw [PL_M_goJoin_111]
    refine ⟨fun c23q => ?_, fun c23q => ?_⟩
    · have h := h.1 ((zt_le rfl rfl).mp c23q)
      obtain ⟨o1q, h⟩ := h
      obtain ⟨i2q, h⟩ := h
      refine ⟨zt_in (show (((y4 + 1) : Int32)).toInt = ((y4.toInt + 1) : Int) from (zt_add rfl rfl o1q)) i2q, ?_⟩
      exact h_Q _ _ (Eq.mpr (congrArg (fun k => Qz k (aA v0)) (show (((v0 (Int32.toNatClampNeg (y4 + 1))) : Int32)).toInt = (((aA v0) (Int.toNat (y4.toInt + 1))) : Int) from (congrArg (fun k => (aA v0) k) (show (Int32.toNatClampNeg (y4 + 1)) = (Int.toNat (y4.toInt + 1)) from (congrArg Int.toNat (show (((y4 + 1) : Int32)).toInt = ((y4.toInt + 1) : Int) from (zt_add rfl rfl o1q))))))) h)
    · have h := h.2 (fun k => c23q ((zt_le rfl rfl).mpr k))
      refine ⟨fun c22q => ?_, fun c22q => ?_⟩
      · have h := h.1 (fun k => c22q ((zt_eq rfl rfl).mpr k))
        refine ⟨fun c15q => ?_, fun c15q => ?_⟩
        · have h := h.1 (fun k => c15q ((zt_eq rfl rfl).mpr k))
          obtain ⟨o3q, h⟩ := h
          obtain ⟨o4q, h⟩ := h
          obtain ⟨i5q, h⟩ := h
          refine ⟨zt_in (show ((((y5 + 2) + y6) : Int32)).toInt = (((y5.toInt + 2) + y6.toInt) : Int) from (zt_add (show (((y5 + 2) : Int32)).toInt = ((y5.toInt + 2) : Int) from (zt_add rfl rfl o3q)) rfl o4q)) i5q, ?_⟩
          obtain ⟨o6q, h⟩ := h
          obtain ⟨o7q, h⟩ := h
          obtain ⟨i8q, h⟩ := h
          refine ⟨zt_in (show ((((y4 + 7) + y6) : Int32)).toInt = (((y4.toInt + 7) + y6.toInt) : Int) from (zt_add (show (((y4 + 7) : Int32)).toInt = ((y4.toInt + 7) : Int) from (zt_add rfl rfl o6q)) rfl o7q)) i8q, ?_⟩
          intro v76_ ev76_
          have h := h (aA v76_) (by rw [ev76_]; exact (show (aA (upd v0 (Int32.toNatClampNeg ((y4 + 7) + y6)) (v0 (Int32.toNatClampNeg ((y5 + 2) + y6))))) = (updz (aA v0) (Int.toNat ((y4.toInt + 7) + y6.toInt)) ((aA v0) (Int.toNat ((y5.toInt + 2) + y6.toInt)))) from (zt_upd rfl (show (Int32.toNatClampNeg ((y4 + 7) + y6)) = (Int.toNat ((y4.toInt + 7) + y6.toInt)) from (congrArg Int.toNat (show ((((y4 + 7) + y6) : Int32)).toInt = (((y4.toInt + 7) + y6.toInt) : Int) from (zt_add (show (((y4 + 7) : Int32)).toInt = ((y4.toInt + 7) : Int) from (zt_add rfl rfl o6q)) rfl o7q)))) (show (((v0 (Int32.toNatClampNeg ((y5 + 2) + y6))) : Int32)).toInt = (((aA v0) (Int.toNat ((y5.toInt + 2) + y6.toInt))) : Int) from (congrArg (fun k => (aA v0) k) (show (Int32.toNatClampNeg ((y5 + 2) + y6)) = (Int.toNat ((y5.toInt + 2) + y6.toInt)) from (congrArg Int.toNat (show ((((y5 + 2) + y6) : Int32)).toInt = (((y5.toInt + 2) + y6.toInt) : Int) from (zt_add (show (((y5 + 2) : Int32)).toInt = ((y5.toInt + 2) : Int) from (zt_add rfl rfl o3q)) rfl o4q)))))))))
          obtain ⟨o9q, h⟩ := h
          refine ih rfl rfl rfl rfl rfl rfl (show (((y6 + 1) : Int32)).toInt = ((y6.toInt + 1) : Int) from (zt_add rfl rfl o9q)) rfl h_Q h
        · have h := h.2 ((zt_eq rfl rfl).mp c15q)
          obtain ⟨i10q, h⟩ := h
          refine ⟨zt_in (show (401 : Int32).toInt = 401 from by decide) i10q, ?_⟩
          refine z_M_told rfl rfl rfl (fun r80_ h => ?_) h
          obtain ⟨o11q, h⟩ := h
          obtain ⟨o12q, h⟩ := h
          obtain ⟨i13q, h⟩ := h
          refine ⟨zt_in (show ((((y4 + 7) + y6) : Int32)).toInt = (((y4.toInt + 7) + y6.toInt) : Int) from (zt_add (show (((y4 + 7) : Int32)).toInt = ((y4.toInt + 7) : Int) from (zt_add rfl rfl o11q)) rfl o12q)) i13q, ?_⟩
          intro v89_ ev89_
          have h := h (aA v89_) (by rw [ev89_]; exact (show (aA (upd v0 (Int32.toNatClampNeg ((y4 + 7) + y6)) r80_)) = (updz (aA v0) (Int.toNat ((y4.toInt + 7) + y6.toInt)) r80_.toInt) from (zt_upd rfl (show (Int32.toNatClampNeg ((y4 + 7) + y6)) = (Int.toNat ((y4.toInt + 7) + y6.toInt)) from (congrArg Int.toNat (show ((((y4 + 7) + y6) : Int32)).toInt = (((y4.toInt + 7) + y6.toInt) : Int) from (zt_add (show (((y4 + 7) : Int32)).toInt = ((y4.toInt + 7) : Int) from (zt_add rfl rfl o11q)) rfl o12q)))) rfl)))
          obtain ⟨o14q, h⟩ := h
          refine ih rfl rfl rfl rfl rfl rfl (show (((y6 + 1) : Int32)).toInt = ((y6.toInt + 1) : Int) from (zt_add rfl rfl o14q)) rfl h_Q h
      · have h := h.2 ((zt_eq rfl rfl).mp c22q)
        obtain ⟨o16q, h⟩ := h
        obtain ⟨i17q, h⟩ := h
        refine ⟨zt_in (show (((402 + y6) : Int32)).toInt = ((402 + y6.toInt) : Int) from (zt_add rfl rfl o16q)) i17q, ?_⟩
        obtain ⟨o18q, h⟩ := h
        obtain ⟨o19q, h⟩ := h
        obtain ⟨i20q, h⟩ := h
        refine ⟨zt_in (show ((((y4 + 7) + y6) : Int32)).toInt = (((y4.toInt + 7) + y6.toInt) : Int) from (zt_add (show (((y4 + 7) : Int32)).toInt = ((y4.toInt + 7) : Int) from (zt_add rfl rfl o18q)) rfl o19q)) i20q, ?_⟩
        intro v98_ ev98_
        have h := h (aA v98_) (by rw [ev98_]; exact (show (aA (upd v0 (Int32.toNatClampNeg ((y4 + 7) + y6)) (v0 (Int32.toNatClampNeg (402 + y6))))) = (updz (aA v0) (Int.toNat ((y4.toInt + 7) + y6.toInt)) ((aA v0) (Int.toNat (402 + y6.toInt)))) from (zt_upd rfl (show (Int32.toNatClampNeg ((y4 + 7) + y6)) = (Int.toNat ((y4.toInt + 7) + y6.toInt)) from (congrArg Int.toNat (show ((((y4 + 7) + y6) : Int32)).toInt = (((y4.toInt + 7) + y6.toInt) : Int) from (zt_add (show (((y4 + 7) : Int32)).toInt = ((y4.toInt + 7) : Int) from (zt_add rfl rfl o18q)) rfl o19q)))) (show (((v0 (Int32.toNatClampNeg (402 + y6))) : Int32)).toInt = (((aA v0) (Int.toNat (402 + y6.toInt))) : Int) from (congrArg (fun k => (aA v0) k) (show (Int32.toNatClampNeg (402 + y6)) = (Int.toNat (402 + y6.toInt)) from (congrArg Int.toNat (show (((402 + y6) : Int32)).toInt = ((402 + y6.toInt) : Int) from (zt_add rfl rfl o16q)))))))))
        obtain ⟨o21q, h⟩ := h
        refine ih rfl rfl rfl rfl rfl rfl (show (((y6 + 1) : Int32)).toInt = ((y6.toInt + 1) : Int) from (zt_add rfl rfl o21q)) rfl h_Q h
def ZJ_M_goJoin_74 (x1 : Int) (x2 : Int) (x3 : Int) (y2 : Int) (y4 : Int) (y5 : Int) (u0 : Int) (u1 : Int) (v0 : (Nat → Int)) (Q : (Int → (Nat → Int) → Prop)) : Prop := ((0 : Int) ≤ u1 ∧ (u1 : Int) < 621) ∧ ((∀ v30_, v30_ = (updz v0 (Int.toNat u1) u0) → (zin (y4 + 3) ∧ ((0 : Int) ≤ (y4 + 3) ∧ ((y4 + 3) : Int) < 621) ∧ ((∀ v38_, v38_ = (updz v30_ (Int.toNat (y4 + 3)) 0) → (zin (y4 + 4) ∧ ((0 : Int) ≤ (y4 + 4) ∧ ((y4 + 4) : Int) < 621) ∧ ((∀ v46_, v46_ = (updz v38_ (Int.toNat (y4 + 4)) 0) → (((0 : Int) ≤ 616 ∧ (616 : Int) < 621) ∧ (zin (y4 + 5) ∧ ((0 : Int) ≤ (y4 + 5) ∧ ((y4 + 5) : Int) < 621) ∧ ((∀ v55_, v55_ = (updz v46_ (Int.toNat (y4 + 5)) (v46_ (Int.toNat 616))) → (zin (y4 + 6) ∧ ((0 : Int) ≤ (y4 + 6) ∧ ((y4 + 6) : Int) < 621) ∧ ((∀ v63_, v63_ = (updz v55_ (Int.toNat (y4 + 6)) 0) → ((∃ n101_, (ZL_M_goJoin_111 n101_ x1 x2 x3 y2 y4 y5 0 v63_ Q))))))))))))))))))
set_option maxRecDepth 100000 in
theorem zJ_M_goJoin_74 {x1 : Int32} {x1z : Int} {x2 : Int32} {x2z : Int} {x3 : Int32} {x3z : Int} {y2 : Int32} {y2z : Int} {y4 : Int32} {y4z : Int} {y5 : Int32} {y5z : Int} {u0 : Int32} {u0z : Int} {u1 : Int32} {u1z : Int} {v0 : Nat → Int32} {v0z : (Nat → Int)}  {Q : Int32 → (Nat → Int32) → Prop} {Qz : (Int → (Nat → Int) → Prop)} (e_x1 : x1.toInt = x1z) (e_x2 : x2.toInt = x2z) (e_x3 : x3.toInt = x3z) (e_y2 : y2.toInt = y2z) (e_y4 : y4.toInt = y4z) (e_y5 : y5.toInt = y5z) (e_u0 : u0.toInt = u0z) (e_u1 : u1.toInt = u1z) (e_v0 : (aA v0) = v0z) (h_Q : ∀ (a0 : Int32) (a1 : Nat → Int32), Qz a0.toInt (aA a1) → Q a0 a1) (h : ZJ_M_goJoin_74 x1z x2z x3z y2z y4z y5z u0z u1z v0z Qz) : PJ_M_goJoin_74 x1 x2 x3 y2 y4 y5 u0 u1 v0 Q := by
  subst e_x1
  subst e_x2
  subst e_x3
  subst e_y2
  subst e_y4
  subst e_y5
  subst e_u0
  subst e_u1
  subst e_v0
  unfold ZJ_M_goJoin_74 at h
  unfold PJ_M_goJoin_74
  obtain ⟨i1q, h⟩ := h
  refine ⟨zt_in rfl i1q, ?_⟩
  intro v30_ ev30_
  have h := h (aA v30_) (by rw [ev30_]; exact (show (aA (upd v0 (Int32.toNatClampNeg u1) u0)) = (updz (aA v0) (Int.toNat u1.toInt) u0.toInt) from (zt_upd rfl rfl rfl)))
  obtain ⟨o2q, h⟩ := h
  obtain ⟨i3q, h⟩ := h
  refine ⟨zt_in (show (((y4 + 3) : Int32)).toInt = ((y4.toInt + 3) : Int) from (zt_add rfl rfl o2q)) i3q, ?_⟩
  intro v38_ ev38_
  have h := h (aA v38_) (by rw [ev38_]; exact (show (aA (upd v30_ (Int32.toNatClampNeg (y4 + 3)) 0)) = (updz (aA v30_) (Int.toNat (y4.toInt + 3)) 0) from (zt_upd rfl (show (Int32.toNatClampNeg (y4 + 3)) = (Int.toNat (y4.toInt + 3)) from (congrArg Int.toNat (show (((y4 + 3) : Int32)).toInt = ((y4.toInt + 3) : Int) from (zt_add rfl rfl o2q)))) rfl)))
  obtain ⟨o4q, h⟩ := h
  obtain ⟨i5q, h⟩ := h
  refine ⟨zt_in (show (((y4 + 4) : Int32)).toInt = ((y4.toInt + 4) : Int) from (zt_add rfl rfl o4q)) i5q, ?_⟩
  intro v46_ ev46_
  have h := h (aA v46_) (by rw [ev46_]; exact (show (aA (upd v38_ (Int32.toNatClampNeg (y4 + 4)) 0)) = (updz (aA v38_) (Int.toNat (y4.toInt + 4)) 0) from (zt_upd rfl (show (Int32.toNatClampNeg (y4 + 4)) = (Int.toNat (y4.toInt + 4)) from (congrArg Int.toNat (show (((y4 + 4) : Int32)).toInt = ((y4.toInt + 4) : Int) from (zt_add rfl rfl o4q)))) rfl)))
  obtain ⟨i6q, h⟩ := h
  refine ⟨zt_in (show (616 : Int32).toInt = 616 from by decide) i6q, ?_⟩
  obtain ⟨o7q, h⟩ := h
  obtain ⟨i8q, h⟩ := h
  refine ⟨zt_in (show (((y4 + 5) : Int32)).toInt = ((y4.toInt + 5) : Int) from (zt_add rfl rfl o7q)) i8q, ?_⟩
  intro v55_ ev55_
  have h := h (aA v55_) (by rw [ev55_]; exact (show (aA (upd v46_ (Int32.toNatClampNeg (y4 + 5)) (v46_ (Int32.toNatClampNeg 616)))) = (updz (aA v46_) (Int.toNat (y4.toInt + 5)) ((aA v46_) (Int.toNat 616))) from (zt_upd rfl (show (Int32.toNatClampNeg (y4 + 5)) = (Int.toNat (y4.toInt + 5)) from (congrArg Int.toNat (show (((y4 + 5) : Int32)).toInt = ((y4.toInt + 5) : Int) from (zt_add rfl rfl o7q)))) rfl)))
  obtain ⟨o9q, h⟩ := h
  obtain ⟨i10q, h⟩ := h
  refine ⟨zt_in (show (((y4 + 6) : Int32)).toInt = ((y4.toInt + 6) : Int) from (zt_add rfl rfl o9q)) i10q, ?_⟩
  intro v63_ ev63_
  have h := h (aA v63_) (by rw [ev63_]; exact (show (aA (upd v55_ (Int32.toNatClampNeg (y4 + 6)) 0)) = (updz (aA v55_) (Int.toNat (y4.toInt + 6)) 0) from (zt_upd rfl (show (Int32.toNatClampNeg (y4 + 6)) = (Int.toNat (y4.toInt + 6)) from (congrArg Int.toNat (show (((y4 + 6) : Int32)).toInt = ((y4.toInt + 6) : Int) from (zt_add rfl rfl o9q)))) rfl)))
  obtain ⟨n101_, h⟩ := h
  refine ⟨n101_, ?_⟩
  refine zL_M_goJoin_111 n101_ rfl rfl rfl rfl rfl rfl rfl rfl h_Q h
def ZJ_M_goJoin_59 (x1 : Int) (x2 : Int) (x3 : Int) (y2 : Int) (y3 : Int) (y4 : Int) (y5 : Int) (u0 : Int) (u1 : Int) (v0 : (Nat → Int)) (Q : (Int → (Nat → Int) → Prop)) : Prop := ((0 : Int) ≤ u1 ∧ (u1 : Int) < 621) ∧ ((∀ v21_, v21_ = (updz v0 (Int.toNat u1) u0) → (((y3 = 0 → zin (y4 + 2) ∧ (ZJ_M_goJoin_74 x1 x2 x3 y2 y4 y5 0 (y4 + 2) v21_ Q)) ∧ (¬ y3 = 0 → zin (y4 + 2) ∧ (ZJ_M_goJoin_74 x1 x2 x3 y2 y4 y5 1 (y4 + 2) v21_ Q))))))
set_option maxRecDepth 100000 in
theorem zJ_M_goJoin_59 {x1 : Int32} {x1z : Int} {x2 : Int32} {x2z : Int} {x3 : Int32} {x3z : Int} {y2 : Int32} {y2z : Int} {y3 : Int32} {y3z : Int} {y4 : Int32} {y4z : Int} {y5 : Int32} {y5z : Int} {u0 : Int32} {u0z : Int} {u1 : Int32} {u1z : Int} {v0 : Nat → Int32} {v0z : (Nat → Int)}  {Q : Int32 → (Nat → Int32) → Prop} {Qz : (Int → (Nat → Int) → Prop)} (e_x1 : x1.toInt = x1z) (e_x2 : x2.toInt = x2z) (e_x3 : x3.toInt = x3z) (e_y2 : y2.toInt = y2z) (e_y3 : y3.toInt = y3z) (e_y4 : y4.toInt = y4z) (e_y5 : y5.toInt = y5z) (e_u0 : u0.toInt = u0z) (e_u1 : u1.toInt = u1z) (e_v0 : (aA v0) = v0z) (h_Q : ∀ (a0 : Int32) (a1 : Nat → Int32), Qz a0.toInt (aA a1) → Q a0 a1) (h : ZJ_M_goJoin_59 x1z x2z x3z y2z y3z y4z y5z u0z u1z v0z Qz) : PJ_M_goJoin_59 x1 x2 x3 y2 y3 y4 y5 u0 u1 v0 Q := by
  subst e_x1
  subst e_x2
  subst e_x3
  subst e_y2
  subst e_y3
  subst e_y4
  subst e_y5
  subst e_u0
  subst e_u1
  subst e_v0
  unfold ZJ_M_goJoin_59 at h
  unfold PJ_M_goJoin_59
  obtain ⟨i1q, h⟩ := h
  refine ⟨zt_in rfl i1q, ?_⟩
  intro v21_ ev21_
  have h := h (aA v21_) (by rw [ev21_]; exact (show (aA (upd v0 (Int32.toNatClampNeg u1) u0)) = (updz (aA v0) (Int.toNat u1.toInt) u0.toInt) from (zt_upd rfl rfl rfl)))
  refine ⟨fun c4q => ?_, fun c4q => ?_⟩
  · have h := h.1 ((zt_eq rfl rfl).mp c4q)
    obtain ⟨o2q, h⟩ := h
    refine zJ_M_goJoin_74 rfl rfl rfl rfl rfl rfl rfl (show (((y4 + 2) : Int32)).toInt = ((y4.toInt + 2) : Int) from (zt_add rfl rfl o2q)) rfl h_Q h
  · have h := h.2 (fun k => c4q ((zt_eq rfl rfl).mpr k))
    obtain ⟨o3q, h⟩ := h
    refine zJ_M_goJoin_74 rfl rfl rfl rfl rfl rfl rfl (show (((y4 + 2) : Int32)).toInt = ((y4.toInt + 2) : Int) from (zt_add rfl rfl o3q)) rfl h_Q h
def Z_M_goJoin (x1 : Int) (x2 : Int) (x3 : Int) (v0 : (Nat → Int)) (Q : (Int → (Nat → Int) → Prop)) : Prop := (Z_M_reader x1 (fun r1_ => zin (r1_ + 0) ∧ ((0 : Int) ≤ (r1_ + 0) ∧ ((r1_ + 0) : Int) < 621) ∧ ((∀ v10_, v10_ = (updz v0 (Int.toNat (r1_ + 0)) 1) → (((¬ x2 = 0 → ((¬ x2 = 1 → zin (10 * x1) ∧ zin (530 + (10 * x1)) ∧ zin ((530 + (10 * x1)) + 1) ∧ ((0 : Int) ≤ ((530 + (10 * x1)) + 1) ∧ (((530 + (10 * x1)) + 1) : Int) < 621) ∧ (zin (r1_ + 1) ∧ (ZJ_M_goJoin_59 x1 x2 x3 x2 x3 r1_ (530 + (10 * x1)) (v10_ (Int.toNat ((530 + (10 * x1)) + 1))) (r1_ + 1) v10_ Q))) ∧ (x2 = 1 → ((0 : Int) ≤ 401 ∧ (401 : Int) < 621) ∧ (zin (10 * x1) ∧ zin (530 + (10 * x1)) ∧ zin (r1_ + 1) ∧ (ZJ_M_goJoin_59 x1 x2 x3 x2 x3 r1_ (530 + (10 * x1)) (v10_ (Int.toNat 401)) (r1_ + 1) v10_ Q))))) ∧ (x2 = 0 → ((0 : Int) ≤ 400 ∧ (400 : Int) < 621) ∧ (zin (10 * x1) ∧ zin (530 + (10 * x1)) ∧ zin (r1_ + 1) ∧ (ZJ_M_goJoin_59 x1 x2 x3 x2 x3 r1_ (530 + (10 * x1)) (v10_ (Int.toNat 400)) (r1_ + 1) v10_ Q)))))))))
set_option maxRecDepth 100000 in
theorem z_M_goJoin {x1 : Int32} {x1z : Int} {x2 : Int32} {x2z : Int} {x3 : Int32} {x3z : Int} {v0 : Nat → Int32} {v0z : (Nat → Int)}  {Q : Int32 → (Nat → Int32) → Prop} {Qz : (Int → (Nat → Int) → Prop)} (e_x1 : x1.toInt = x1z) (e_x2 : x2.toInt = x2z) (e_x3 : x3.toInt = x3z) (e_v0 : (aA v0) = v0z) (h_Q : ∀ (a0 : Int32) (a1 : Nat → Int32), Qz a0.toInt (aA a1) → Q a0 a1) (h : Z_M_goJoin x1z x2z x3z v0z Qz) : P_M_goJoin x1 x2 x3 v0 Q := by
  subst e_x1
  subst e_x2
  subst e_x3
  subst e_v0
  unfold Z_M_goJoin at h
  unfold P_M_goJoin
  refine z_M_reader rfl (fun r1_ h => ?_) h
  obtain ⟨o1q, h⟩ := h
  obtain ⟨i2q, h⟩ := h
  refine ⟨zt_in (show (((r1_ + 0) : Int32)).toInt = ((r1_.toInt + 0) : Int) from (zt_add rfl rfl o1q)) i2q, ?_⟩
  intro v10_ ev10_
  have h := h (aA v10_) (by rw [ev10_]; exact (show (aA (upd v0 (Int32.toNatClampNeg (r1_ + 0)) 1)) = (updz (aA v0) (Int.toNat (r1_.toInt + 0)) 1) from (zt_upd rfl (show (Int32.toNatClampNeg (r1_ + 0)) = (Int.toNat (r1_.toInt + 0)) from (congrArg Int.toNat (show (((r1_ + 0) : Int32)).toInt = ((r1_.toInt + 0) : Int) from (zt_add rfl rfl o1q)))) rfl)))
  refine ⟨fun c17q => ?_, fun c17q => ?_⟩
  · have h := h.1 (fun k => c17q ((zt_eq rfl rfl).mpr k))
    refine ⟨fun c12q => ?_, fun c12q => ?_⟩
    · have h := h.1 (fun k => c12q ((zt_eq rfl rfl).mpr k))
      obtain ⟨o3q, h⟩ := h
      obtain ⟨o4q, h⟩ := h
      obtain ⟨o5q, h⟩ := h
      obtain ⟨i6q, h⟩ := h
      refine ⟨zt_in (show ((((530 + (10 * x1)) + 1) : Int32)).toInt = (((530 + (10 * x1.toInt)) + 1) : Int) from (zt_add (show (((530 + (10 * x1)) : Int32)).toInt = ((530 + (10 * x1.toInt)) : Int) from (zt_add rfl (show (((10 * x1) : Int32)).toInt = ((10 * x1.toInt) : Int) from (zt_mul rfl rfl o3q)) o4q)) rfl o5q)) i6q, ?_⟩
      obtain ⟨o7q, h⟩ := h
      refine zJ_M_goJoin_59 rfl rfl rfl rfl rfl rfl (show (((530 + (10 * x1)) : Int32)).toInt = ((530 + (10 * x1.toInt)) : Int) from (zt_add rfl (show (((10 * x1) : Int32)).toInt = ((10 * x1.toInt) : Int) from (zt_mul rfl rfl o3q)) o4q)) (show (((v10_ (Int32.toNatClampNeg ((530 + (10 * x1)) + 1))) : Int32)).toInt = (((aA v10_) (Int.toNat ((530 + (10 * x1.toInt)) + 1))) : Int) from (congrArg (fun k => (aA v10_) k) (show (Int32.toNatClampNeg ((530 + (10 * x1)) + 1)) = (Int.toNat ((530 + (10 * x1.toInt)) + 1)) from (congrArg Int.toNat (show ((((530 + (10 * x1)) + 1) : Int32)).toInt = (((530 + (10 * x1.toInt)) + 1) : Int) from (zt_add (show (((530 + (10 * x1)) : Int32)).toInt = ((530 + (10 * x1.toInt)) : Int) from (zt_add rfl (show (((10 * x1) : Int32)).toInt = ((10 * x1.toInt) : Int) from (zt_mul rfl rfl o3q)) o4q)) rfl o5q)))))) (show (((r1_ + 1) : Int32)).toInt = ((r1_.toInt + 1) : Int) from (zt_add rfl rfl o7q)) rfl h_Q h
    · have h := h.2 ((zt_eq rfl rfl).mp c12q)
      obtain ⟨i8q, h⟩ := h
      refine ⟨zt_in (show (401 : Int32).toInt = 401 from by decide) i8q, ?_⟩
      obtain ⟨o9q, h⟩ := h
      obtain ⟨o10q, h⟩ := h
      obtain ⟨o11q, h⟩ := h
      refine zJ_M_goJoin_59 rfl rfl rfl rfl rfl rfl (show (((530 + (10 * x1)) : Int32)).toInt = ((530 + (10 * x1.toInt)) : Int) from (zt_add rfl (show (((10 * x1) : Int32)).toInt = ((10 * x1.toInt) : Int) from (zt_mul rfl rfl o9q)) o10q)) rfl (show (((r1_ + 1) : Int32)).toInt = ((r1_.toInt + 1) : Int) from (zt_add rfl rfl o11q)) rfl h_Q h
  · have h := h.2 ((zt_eq rfl rfl).mp c17q)
    obtain ⟨i13q, h⟩ := h
    refine ⟨zt_in (show (400 : Int32).toInt = 400 from by decide) i13q, ?_⟩
    obtain ⟨o14q, h⟩ := h
    obtain ⟨o15q, h⟩ := h
    obtain ⟨o16q, h⟩ := h
    refine zJ_M_goJoin_59 rfl rfl rfl rfl rfl rfl (show (((530 + (10 * x1)) : Int32)).toInt = ((530 + (10 * x1.toInt)) : Int) from (zt_add rfl (show (((10 * x1) : Int32)).toInt = ((10 * x1.toInt) : Int) from (zt_mul rfl rfl o14q)) o15q)) rfl (show (((r1_ + 1) : Int32)).toInt = ((r1_.toInt + 1) : Int) from (zt_add rfl rfl o16q)) rfl h_Q h

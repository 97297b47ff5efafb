def ZL_M_restore_39 : Nat → Int → Int → Int → MZ → (Int → MZ → Prop) → Prop
  | 0, _, _, _, _, _ => False
  | n + 1, x1, y1, y2, v0, Q => ((621 ≤ y2 → (∀ v23_, v23_ = (Mz_set_states v0 0) → (((0 : Int) ≤ 616 ∧ (616 : Int) < 621) ∧ ((Q (Mz_now v23_ (Int.toNat 616)) v23_))))) ∧ (¬ 621 ≤ y2 → zin (621 * y1) ∧ zin ((621 * y1) + y2) ∧ ((0 : Int) ≤ ((621 * y1) + y2) ∧ (((621 * y1) + y2) : Int) < 1242) ∧ (((0 : Int) ≤ y2 ∧ (y2 : Int) < 621) ∧ ((∀ v35_, v35_ = (Mz_set_now v0 (updz (Mz_now v0) (Int.toNat y2) (Mz_kept v0 (Int.toNat ((621 * y1) + y2))))) → (zin (y2 + 1) ∧ (ZL_M_restore_39 n x1 y1 (y2 + 1) v35_ Q)))))))
set_option maxRecDepth 100000 in
theorem zL_M_restore_39 (n : Nat) : ∀ {x1 : Int32} {x1z : Int} {y1 : Int32} {y1z : Int} {y2 : Int32} {y2z : Int} {v0 : MT} {v0z : MZ}  {Q : Int32 → MT → Prop} {Qz : (Int → MZ → Prop)} (e_x1 : x1.toInt = x1z) (e_y1 : y1.toInt = y1z) (e_y2 : y2.toInt = y2z) (e_v0 : (aM v0) = v0z) (h_Q : ∀ (a0 : Int32) (a1 : MT), Qz a0.toInt (aM a1) → Q a0 a1) (h : ZL_M_restore_39 n x1z y1z y2z v0z Qz), PL_M_restore_39 n x1 y1 y2 v0 Q := by
  induction n with
  | zero =>
    intro x1 x1z y1 y1z y2 y2z v0 v0z Q Qz e_x1 e_y1 e_y2 e_v0 h_Q h
    exact (h : False).elim
  | succ n ih =>
    intro x1 x1z y1 y1z y2 y2z v0 v0z Q Qz e_x1 e_y1 e_y2 e_v0 h_Q h
    subst e_x1
    subst e_y1
    subst e_y2
    subst e_v0
    rw [ZL_M_restore_39] at h
    rw [PL_M_restore_39]
    refine ⟨fun c7q => ?_, fun c7q => ?_⟩
    · have h := h.1 ((zt_le rfl rfl).mp c7q)
      intro v23_ ev23_
      have h := h (aM v23_) (by rw [ev23_]; exact rfl)
      obtain ⟨i1q, h⟩ := h
      refine ⟨zt_in (show (616 : Int32).toInt = 616 from by decide) i1q, ?_⟩
      exact h_Q _ _ h
    · have h := h.2 (fun k => c7q ((zt_le rfl rfl).mpr k))
      obtain ⟨o2q, h⟩ := h
      obtain ⟨o3q, h⟩ := h
      obtain ⟨i4q, h⟩ := h
      refine ⟨zt_in (show ((((621 * y1) + y2) : Int32)).toInt = (((621 * y1.toInt) + y2.toInt) : Int) from (zt_add (show (((621 * y1) : Int32)).toInt = ((621 * y1.toInt) : Int) from (zt_mul rfl rfl o2q)) rfl o3q)) i4q, ?_⟩
      obtain ⟨i5q, h⟩ := h
      refine ⟨zt_in rfl i5q, ?_⟩
      intro v35_ ev35_
      have h := h (aM v35_) (by rw [ev35_]; exact (show (aM (M_set_now v0 (upd (M_now v0) (Int32.toNatClampNeg y2) (M_kept v0 (Int32.toNatClampNeg ((621 * y1) + y2)))))) = (Mz_set_now (aM v0) (updz (Mz_now (aM v0)) (Int.toNat y2.toInt) (Mz_kept (aM v0) (Int.toNat ((621 * y1.toInt) + y2.toInt))))) from (congrArg (fun k => Mz_set_now (aM v0) k) (show (aA (upd (M_now v0) (Int32.toNatClampNeg y2) (M_kept v0 (Int32.toNatClampNeg ((621 * y1) + y2))))) = (updz (Mz_now (aM v0)) (Int.toNat y2.toInt) (Mz_kept (aM v0) (Int.toNat ((621 * y1.toInt) + y2.toInt)))) from (zt_upd rfl rfl (show (((M_kept v0 (Int32.toNatClampNeg ((621 * y1) + y2))) : Int32)).toInt = ((Mz_kept (aM v0) (Int.toNat ((621 * y1.toInt) + y2.toInt))) : Int) from (congrArg (fun k => Mz_kept (aM v0) k) (show (Int32.toNatClampNeg ((621 * y1) + y2)) = (Int.toNat ((621 * y1.toInt) + y2.toInt)) from (congrArg Int.toNat (show ((((621 * y1) + y2) : Int32)).toInt = (((621 * y1.toInt) + y2.toInt) : Int) from (zt_add (show (((621 * y1) : Int32)).toInt = ((621 * y1.toInt) : Int) from (zt_mul rfl rfl o2q)) rfl o3q)))))))))))
      obtain ⟨o6q, h⟩ := h
      refine ih rfl rfl (show (((y2 + 1) : Int32)).toInt = ((y2.toInt + 1) : Int) from (zt_add rfl rfl o6q)) rfl h_Q h
def Z_M_restore (x1 : Int) (v0 : MZ) (Q : (Int → MZ → Prop)) : Prop := (Z_M_in x1 0 1 (fun r1_ => ((¬ r1_ = 0 → ((0 : Int) ≤ x1 ∧ (x1 : Int) < 2) ∧ (((¬ (Mz_isKept v0 (Int.toNat x1)) = 0 → (Z_M_refused 0 v0 (fun r8_ v12_ => ((r8_ = 0 → (∃ n38_, (ZL_M_restore_39 n38_ x1 x1 0 v12_ Q))) ∧ (¬ r8_ = 0 → (Q 0 v12_)))))) ∧ ((Mz_isKept v0 (Int.toNat x1)) = 0 → (Z_M_refused 2 v0 (fun r39_ v43_ => ((r39_ = 0 → (∃ n48_, (ZL_M_restore_39 n48_ x1 x1 0 v43_ Q))) ∧ (¬ r39_ = 0 → (Q 0 v43_))))))))) ∧ (r1_ = 0 → (Z_M_refused 1 v0 (fun r49_ v53_ => ((r49_ = 0 → (∃ n58_, (ZL_M_restore_39 n58_ x1 x1 0 v53_ Q))) ∧ (¬ r49_ = 0 → (Q 0 v53_)))))))))
set_option maxRecDepth 100000 in
theorem z_M_restore {x1 : Int32} {x1z : Int} {v0 : MT} {v0z : MZ}  {Q : Int32 → MT → Prop} {Qz : (Int → MZ → Prop)} (e_x1 : x1.toInt = x1z) (e_v0 : (aM v0) = v0z) (h_Q : ∀ (a0 : Int32) (a1 : MT), Qz a0.toInt (aM a1) → Q a0 a1) (h : Z_M_restore x1z v0z Qz) : P_M_restore x1 v0 Q := by
  subst e_x1
  subst e_v0
  unfold Z_M_restore at h
  unfold P_M_restore
  refine z_M_in (show (Int32.toInt64 x1).toInt = (x1.toInt : Int) from (zt_i2l rfl)) rfl rfl (fun r1_ h => ?_) h
  refine ⟨fun c6q => ?_, fun c6q => ?_⟩
  · have h := h.1 (fun k => c6q ((zt_eq rfl rfl).mpr k))
    obtain ⟨i1q, h⟩ := h
    refine ⟨zt_in rfl i1q, ?_⟩
    refine ⟨fun c4q => ?_, fun c4q => ?_⟩
    · have h := h.1 (fun k => c4q ((zt_eq rfl rfl).mpr k))
      refine z_M_refused rfl rfl (fun r8_ v12_ h => ?_) h
      refine ⟨fun c2q => ?_, fun c2q => ?_⟩
      · have h := h.1 ((zt_eq rfl rfl).mp c2q)
        obtain ⟨n38_, h⟩ := h
        refine ⟨n38_, ?_⟩
        refine zL_M_restore_39 n38_ rfl rfl rfl rfl h_Q h
      · have h := h.2 (fun k => c2q ((zt_eq rfl rfl).mpr k))
        exact h_Q _ _ h
    · have h := h.2 ((zt_eq rfl rfl).mp c4q)
      refine z_M_refused rfl rfl (fun r39_ v43_ h => ?_) h
      refine ⟨fun c3q => ?_, fun c3q => ?_⟩
      · have h := h.1 ((zt_eq rfl rfl).mp c3q)
        obtain ⟨n48_, h⟩ := h
        refine ⟨n48_, ?_⟩
        refine zL_M_restore_39 n48_ rfl rfl rfl rfl h_Q h
      · have h := h.2 (fun k => c3q ((zt_eq rfl rfl).mpr k))
        exact h_Q _ _ h
  · have h := h.2 ((zt_eq rfl rfl).mp c6q)
    refine z_M_refused rfl rfl (fun r49_ v53_ h => ?_) h
    refine ⟨fun c5q => ?_, fun c5q => ?_⟩
    · have h := h.1 ((zt_eq rfl rfl).mp c5q)
      obtain ⟨n58_, h⟩ := h
      refine ⟨n58_, ?_⟩
      refine zL_M_restore_39 n58_ rfl rfl rfl rfl h_Q h
    · have h := h.2 (fun k => c5q ((zt_eq rfl rfl).mpr k))
      exact h_Q _ _ h

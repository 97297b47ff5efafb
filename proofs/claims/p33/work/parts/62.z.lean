def Z_S_segmentNumber (x1 : Int) (x2 : Int) (v0 : SZ) (Q : (Int → Prop)) : Prop := ((x2 = 0 → (Z_L_startOf x1 (Sz_log v0) (fun r2_ => (Q r2_)))) ∧ (¬ x2 = 0 → ((x2 = 1 → (Z_L_endOf x1 (Sz_log v0) (fun r7_ => (Z_L_startOf x1 (Sz_log v0) (fun r11_ => zin (r7_ - r11_) ∧ (Q (r7_ - r11_))))))) ∧ (¬ x2 = 1 → ((x2 = 2 → (Z_L_startOf x1 (Sz_log v0) (fun r16_ => (Z_L_endOf x1 (Sz_log v0) (fun r20_ => (Z_L_lengthOf r16_ r20_ (Sz_log v0) (fun r24_ => (Q r24_)))))))) ∧ (¬ x2 = 2 → ((x2 = 3 → (Z_L_segments (Sz_log v0) (fun r29_ => zin (r29_ - 1) ∧ (((r29_ - 1) ≤ x1 → (Z_T_asNumber 0 (fun r34_ => (Q r34_)))) ∧ (¬ (r29_ - 1) ≤ x1 → (Z_T_asNumber 1 (fun r38_ => (Q r38_)))))))) ∧ (¬ x2 = 3 → ((x2 = 4 → (Z_L_endOf x1 (Sz_log v0) (fun r43_ => zin (r43_ - 1) ∧ (Z_S_isDue (r43_ - 1) v0 (fun r47_ => (Z_T_asNumber r47_ (fun r51_ => (Q r51_)))))))) ∧ (¬ x2 = 4 → (Z_L_endOf x1 (Sz_log v0) (fun r55_ => zin (r55_ - 1) ∧ (Z_S_holdersUpTo (r55_ - 1) v0 (fun r59_ => ((r59_ ≤ 0 → (Z_T_asNumber 0 (fun r64_ => (Q r64_)))) ∧ (¬ r59_ ≤ 0 → (Z_T_asNumber 1 (fun r68_ => (Q r68_)))))))))))))))))))
set_option maxRecDepth 100000 in
theorem z_S_segmentNumber {x1 : Int32} {x1z : Int} {x2 : Int32} {x2z : Int} {v0 : ST} {v0z : SZ}  {Q : Int32 → Prop} {Qz : (Int → Prop)} (e_x1 : x1.toInt = x1z) (e_x2 : x2.toInt = x2z) (e_v0 : (aS v0) = v0z) (h_Q : ∀ (a0 : Int32), Qz a0.toInt → Q a0) (h : Z_S_segmentNumber x1z x2z v0z Qz) : P_S_segmentNumber x1 x2 v0 Q := by
  subst e_x1
  subst e_x2
  subst e_v0
  unfold Z_S_segmentNumber at h
  unfold P_S_segmentNumber
  refine ⟨fun c11q => ?_, fun c11q => ?_⟩
  · have h := h.1 ((zt_eq rfl rfl).mp c11q)
    refine z_L_startOf rfl rfl (fun r2_ h => ?_) h
    exact h_Q _ h
  · have h := h.2 (fun k => c11q ((zt_eq rfl rfl).mpr k))
    refine ⟨fun c10q => ?_, fun c10q => ?_⟩
    · have h := h.1 ((zt_eq rfl rfl).mp c10q)
      refine z_L_endOf rfl rfl (fun r7_ h => ?_) h
      refine z_L_startOf rfl rfl (fun r11_ h => ?_) h
      obtain ⟨o1q, h⟩ := h
      exact h_Q _ (Eq.mpr (congrArg (fun k => Qz k) (show (((r7_ - r11_) : Int32)).toInt = ((r7_.toInt - r11_.toInt) : Int) from (zt_sub rfl rfl o1q))) h)
    · have h := h.2 (fun k => c10q ((zt_eq rfl rfl).mpr k))
      refine ⟨fun c9q => ?_, fun c9q => ?_⟩
      · have h := h.1 ((zt_eq rfl rfl).mp c9q)
        refine z_L_startOf rfl rfl (fun r16_ h => ?_) h
        refine z_L_endOf rfl rfl (fun r20_ h => ?_) h
        refine z_L_lengthOf rfl rfl rfl (fun r24_ h => ?_) h
        exact h_Q _ h
      · have h := h.2 (fun k => c9q ((zt_eq rfl rfl).mpr k))
        refine ⟨fun c8q => ?_, fun c8q => ?_⟩
        · have h := h.1 ((zt_eq rfl rfl).mp c8q)
          refine z_L_segments rfl (fun r29_ h => ?_) h
          obtain ⟨o2q, h⟩ := h
          refine ⟨fun c3q => ?_, fun c3q => ?_⟩
          · have h := h.1 ((zt_le (show (((r29_ - 1) : Int32)).toInt = ((r29_.toInt - 1) : Int) from (zt_sub rfl rfl o2q)) rfl).mp c3q)
            refine z_T_asNumber rfl (fun r34_ h => ?_) h
            exact h_Q _ h
          · have h := h.2 (fun k => c3q ((zt_le (show (((r29_ - 1) : Int32)).toInt = ((r29_.toInt - 1) : Int) from (zt_sub rfl rfl o2q)) rfl).mpr k))
            refine z_T_asNumber rfl (fun r38_ h => ?_) h
            exact h_Q _ h
        · have h := h.2 (fun k => c8q ((zt_eq rfl rfl).mpr k))
          refine ⟨fun c7q => ?_, fun c7q => ?_⟩
          · have h := h.1 ((zt_eq rfl rfl).mp c7q)
            refine z_L_endOf rfl rfl (fun r43_ h => ?_) h
            obtain ⟨o4q, h⟩ := h
            refine z_S_isDue (show (((r43_ - 1) : Int32)).toInt = ((r43_.toInt - 1) : Int) from (zt_sub rfl rfl o4q)) rfl (fun r47_ h => ?_) h
            refine z_T_asNumber rfl (fun r51_ h => ?_) h
            exact h_Q _ h
          · have h := h.2 (fun k => c7q ((zt_eq rfl rfl).mpr k))
            refine z_L_endOf rfl rfl (fun r55_ h => ?_) h
            obtain ⟨o5q, h⟩ := h
            refine z_S_holdersUpTo (show (((r55_ - 1) : Int32)).toInt = ((r55_.toInt - 1) : Int) from (zt_sub rfl rfl o5q)) rfl (fun r59_ h => ?_) h
            refine ⟨fun c6q => ?_, fun c6q => ?_⟩
            · have h := h.1 ((zt_le rfl rfl).mp c6q)
              refine z_T_asNumber rfl (fun r64_ h => ?_) h
              exact h_Q _ h
            · have h := h.2 (fun k => c6q ((zt_le rfl rfl).mpr k))
              refine z_T_asNumber rfl (fun r68_ h => ?_) h
              exact h_Q _ h

def Z_S_readerNumber (i1 : Nat) (x2 : Int) (v0 : SZ) (Q : (Int → Prop)) : Prop := ((x2 = 0 → (Q (Rz_place (Sz_readers v0 i1)))) ∧ (¬ x2 = 0 → ((x2 = 1 → (Z_T_asNumber (Rz_held (Sz_readers v0 i1)) (fun r3_ => (Q r3_)))) ∧ (¬ x2 = 1 → ((x2 = 2 → (Q (Rz_readSoFar (Sz_readers v0 i1)))) ∧ (¬ x2 = 2 → ((x2 = 3 → (Q (Rz_missedSoFar (Sz_readers v0 i1)))) ∧ (¬ x2 = 3 → ((x2 = 4 → (Q (Rz_lastRead (Sz_readers v0 i1)))) ∧ (¬ x2 = 4 → ((x2 = 5 → zin ((Lz_end (Sz_log v0)) - (zmaxZ (Rz_place (Sz_readers v0 i1)) (Lz_first (Sz_log v0)))) ∧ (Q ((Lz_end (Sz_log v0)) - (zmaxZ (Rz_place (Sz_readers v0 i1)) (Lz_first (Sz_log v0)))))) ∧ (¬ x2 = 5 → ((x2 = 6 → (Z_L_lengthFrom (Rz_place (Sz_readers v0 i1)) (Sz_log v0) (fun r12_ => (Q r12_)))) ∧ (¬ x2 = 6 → ((x2 = 7 → zin ((Lz_first (Sz_log v0)) - (Rz_place (Sz_readers v0 i1))) ∧ (Q (zmaxZ ((Lz_first (Sz_log v0)) - (Rz_place (Sz_readers v0 i1))) 0))) ∧ (¬ x2 = 7 → (Q (Rz_lostBy (Sz_readers v0 i1)))))))))))))))))))
set_option maxRecDepth 100000 in
theorem z_S_readerNumber {x2 : Int32} {x2z : Int} {v0 : ST} {v0z : SZ} {i1 i1z : Nat} {Q : Int32 → Prop} {Qz : (Int → Prop)} (e_i1 : i1 = i1z) (e_x2 : x2.toInt = x2z) (e_v0 : (aS v0) = v0z) (h_Q : ∀ (a0 : Int32), Qz a0.toInt → Q a0) (h : Z_S_readerNumber i1z x2z v0z Qz) : P_S_readerNumber i1 x2 v0 Q := by
  subst e_i1
  subst e_x2
  subst e_v0
  unfold Z_S_readerNumber at h
  unfold P_S_readerNumber
  refine ⟨fun c10q => ?_, fun c10q => ?_⟩
  · have h := h.1 ((zt_eq rfl rfl).mp c10q)
    exact h_Q _ h
  · have h := h.2 (fun k => c10q ((zt_eq rfl rfl).mpr k))
    refine ⟨fun c9q => ?_, fun c9q => ?_⟩
    · have h := h.1 ((zt_eq rfl rfl).mp c9q)
      refine z_T_asNumber rfl (fun r3_ h => ?_) h
      exact h_Q _ h
    · have h := h.2 (fun k => c9q ((zt_eq rfl rfl).mpr k))
      refine ⟨fun c8q => ?_, fun c8q => ?_⟩
      · have h := h.1 ((zt_eq rfl rfl).mp c8q)
        exact h_Q _ h
      · have h := h.2 (fun k => c8q ((zt_eq rfl rfl).mpr k))
        refine ⟨fun c7q => ?_, fun c7q => ?_⟩
        · have h := h.1 ((zt_eq rfl rfl).mp c7q)
          exact h_Q _ h
        · have h := h.2 (fun k => c7q ((zt_eq rfl rfl).mpr k))
          refine ⟨fun c6q => ?_, fun c6q => ?_⟩
          · have h := h.1 ((zt_eq rfl rfl).mp c6q)
            exact h_Q _ h
          · have h := h.2 (fun k => c6q ((zt_eq rfl rfl).mpr k))
            refine ⟨fun c5q => ?_, fun c5q => ?_⟩
            · have h := h.1 ((zt_eq rfl rfl).mp c5q)
              obtain ⟨o1q, h⟩ := h
              exact h_Q _ (Eq.mpr (congrArg (fun k => Qz k) (show ((((L_end (S_log v0)) - (zmax (R_place (S_readers v0 i1)) (L_first (S_log v0)))) : Int32)).toInt = (((Lz_end (Sz_log (aS v0))) - (zmaxZ (Rz_place (Sz_readers (aS v0) i1)) (Lz_first (Sz_log (aS v0))))) : Int) from (zt_sub rfl (show (((zmax (R_place (S_readers v0 i1)) (L_first (S_log v0))) : Int32)).toInt = ((zmaxZ (Rz_place (Sz_readers (aS v0) i1)) (Lz_first (Sz_log (aS v0)))) : Int) from (zt_max rfl rfl)) o1q))) h)
            · have h := h.2 (fun k => c5q ((zt_eq rfl rfl).mpr k))
              refine ⟨fun c4q => ?_, fun c4q => ?_⟩
              · have h := h.1 ((zt_eq rfl rfl).mp c4q)
                refine z_L_lengthFrom rfl rfl (fun r12_ h => ?_) h
                exact h_Q _ h
              · have h := h.2 (fun k => c4q ((zt_eq rfl rfl).mpr k))
                refine ⟨fun c3q => ?_, fun c3q => ?_⟩
                · have h := h.1 ((zt_eq rfl rfl).mp c3q)
                  obtain ⟨o2q, h⟩ := h
                  exact h_Q _ (Eq.mpr (congrArg (fun k => Qz k) (show (((zmax ((L_first (S_log v0)) - (R_place (S_readers v0 i1))) 0) : Int32)).toInt = ((zmaxZ ((Lz_first (Sz_log (aS v0))) - (Rz_place (Sz_readers (aS v0) i1))) 0) : Int) from (zt_max (show ((((L_first (S_log v0)) - (R_place (S_readers v0 i1))) : Int32)).toInt = (((Lz_first (Sz_log (aS v0))) - (Rz_place (Sz_readers (aS v0) i1))) : Int) from (zt_sub rfl rfl o2q)) rfl))) h)
                · have h := h.2 (fun k => c3q ((zt_eq rfl rfl).mpr k))
                  exact h_Q _ h

def Z_S_firstStays (v0 : SZ) (Q : (Int → Prop)) : Prop := (Z_L_segments (Sz_log v0) (fun r1_ => ((2 ≤ r1_ → (Z_L_endOf 0 (Sz_log v0) (fun r6_ => zin (r6_ - 1) ∧ (Z_S_isDue (r6_ - 1) v0 (fun r10_ => ((¬ r10_ = 0 → (Z_S_holdersUpTo (r6_ - 1) v0 (fun r15_ => ((r15_ ≤ 0 → (Q 0)) ∧ (¬ r15_ ≤ 0 → (Q 3)))))) ∧ (r10_ = 0 → (Q 2)))))))) ∧ (¬ 2 ≤ r1_ → (Q 1)))))
set_option maxRecDepth 100000 in
theorem z_S_firstStays {v0 : ST} {v0z : SZ}  {Q : Int32 → Prop} {Qz : (Int → Prop)} (e_v0 : (aS v0) = v0z) (h_Q : ∀ (a0 : Int32), Qz a0.toInt → Q a0) (h : Z_S_firstStays v0z Qz) : P_S_firstStays v0 Q := by
  subst e_v0
  unfold Z_S_firstStays at h
  unfold P_S_firstStays
  refine z_L_segments rfl (fun r1_ h => ?_) h
  refine ⟨fun c4q => ?_, fun c4q => ?_⟩
  · have h := h.1 ((zt_le rfl rfl).mp c4q)
    refine z_L_endOf rfl rfl (fun r6_ h => ?_) h
    obtain ⟨o1q, h⟩ := h
    refine z_S_isDue (show (((r6_ - 1) : Int32)).toInt = ((r6_.toInt - 1) : Int) from (zt_sub rfl rfl o1q)) rfl (fun r10_ h => ?_) h
    refine ⟨fun c3q => ?_, fun c3q => ?_⟩
    · have h := h.1 (fun k => c3q ((zt_eq rfl rfl).mpr k))
      refine z_S_holdersUpTo (show (((r6_ - 1) : Int32)).toInt = ((r6_.toInt - 1) : Int) from (zt_sub rfl rfl o1q)) rfl (fun r15_ h => ?_) h
      refine ⟨fun c2q => ?_, fun c2q => ?_⟩
      · have h := h.1 ((zt_le rfl rfl).mp c2q)
        exact h_Q _ h
      · have h := h.2 (fun k => c2q ((zt_le rfl rfl).mpr k))
        exact h_Q _ h
    · have h := h.2 ((zt_eq rfl rfl).mp c3q)
      exact h_Q _ h
  · have h := h.2 (fun k => c4q ((zt_le rfl rfl).mpr k))
    exact h_Q _ h

def Z_T_isIn (x1 : Int) (x2 : Int) (x3 : Int) (Q : (Int → Prop)) : Prop := ((x1 < x2 → (Q 0)) ∧ (¬ x1 < x2 → ((x3 < x1 → (Q 0)) ∧ (¬ x3 < x1 → (Q 1)))))
set_option maxRecDepth 100000 in
theorem z_T_isIn {x1 : Int32} {x1z : Int} {x2 : Int32} {x2z : Int} {x3 : Int32} {x3z : Int}  {Q : Int32 → Prop} {Qz : (Int → Prop)} (e_x1 : x1.toInt = x1z) (e_x2 : x2.toInt = x2z) (e_x3 : x3.toInt = x3z) (h_Q : ∀ (a0 : Int32), Qz a0.toInt → Q a0) (h : Z_T_isIn x1z x2z x3z Qz) : P_T_isIn x1 x2 x3 Q := by
  subst e_x1
  subst e_x2
  subst e_x3
  unfold Z_T_isIn at h
  unfold P_T_isIn
  refine ⟨fun c2q => ?_, fun c2q => ?_⟩
  · have h := h.1 ((zt_lt rfl rfl).mp c2q)
    exact h_Q _ h
  · have h := h.2 (fun k => c2q ((zt_lt rfl rfl).mpr k))
    refine ⟨fun c1q => ?_, fun c1q => ?_⟩
    · have h := h.1 ((zt_lt rfl rfl).mp c1q)
      exact h_Q _ h
    · have h := h.2 (fun k => c1q ((zt_lt rfl rfl).mpr k))
      exact h_Q _ h

def Z_S_faultOfWriting (x1 : Int) (x2 : Int) (x3 : Int) (v0 : SZ) (Q : (Int → Prop)) : Prop := (Z_T_isIn x1 0 7 (fun r1_ => ((r1_ = 0 → (Q 2)) ∧ (¬ r1_ = 0 → (Z_T_isIn x2 0 99 (fun r6_ => ((r6_ = 0 → (Q 2)) ∧ (¬ r6_ = 0 → (Z_T_isIn x3 1 40 (fun r11_ => ((¬ r11_ = 0 → ((200 ≤ (Lz_end (Sz_log v0)) → (Q 3)) ∧ (¬ 200 ≤ (Lz_end (Sz_log v0)) → (Q 0)))) ∧ (r11_ = 0 → (Q 2)))))))))))))
set_option maxRecDepth 100000 in
theorem z_S_faultOfWriting {x1 : Int32} {x1z : Int} {x2 : Int32} {x2z : Int} {x3 : Int32} {x3z : Int} {v0 : ST} {v0z : SZ}  {Q : Int32 → Prop} {Qz : (Int → Prop)} (e_x1 : x1.toInt = x1z) (e_x2 : x2.toInt = x2z) (e_x3 : x3.toInt = x3z) (e_v0 : (aS v0) = v0z) (h_Q : ∀ (a0 : Int32), Qz a0.toInt → Q a0) (h : Z_S_faultOfWriting x1z x2z x3z v0z Qz) : P_S_faultOfWriting x1 x2 x3 v0 Q := by
  subst e_x1
  subst e_x2
  subst e_x3
  subst e_v0
  unfold Z_S_faultOfWriting at h
  unfold P_S_faultOfWriting
  refine z_T_isIn rfl rfl rfl (fun r1_ h => ?_) h
  refine ⟨fun c4q => ?_, fun c4q => ?_⟩
  · have h := h.1 ((zt_eq rfl rfl).mp c4q)
    exact h_Q _ h
  · have h := h.2 (fun k => c4q ((zt_eq rfl rfl).mpr k))
    refine z_T_isIn rfl rfl rfl (fun r6_ h => ?_) h
    refine ⟨fun c3q => ?_, fun c3q => ?_⟩
    · have h := h.1 ((zt_eq rfl rfl).mp c3q)
      exact h_Q _ h
    · have h := h.2 (fun k => c3q ((zt_eq rfl rfl).mpr k))
      refine z_T_isIn rfl rfl rfl (fun r11_ h => ?_) h
      refine ⟨fun c2q => ?_, fun c2q => ?_⟩
      · have h := h.1 (fun k => c2q ((zt_eq rfl rfl).mpr k))
        refine ⟨fun c1q => ?_, fun c1q => ?_⟩
        · have h := h.1 ((zt_le rfl rfl).mp c1q)
          exact h_Q _ h
        · have h := h.2 (fun k => c1q ((zt_le rfl rfl).mpr k))
          exact h_Q _ h
      · have h := h.2 ((zt_eq rfl rfl).mp c2q)
        exact h_Q _ h

def ZJ_S_faultOfJoining_56 (x1 : Int) (x2 : Int) (x3 : Int) (v0 : SZ) (e4_56 : Nat) (y3 : Int) (y5 : Int) (Q : (Int → Prop)) : Prop := ((y5 = 0 → (Q 0)) ∧ (¬ y5 = 0 → ((y3 = 0 → (Q 0)) ∧ (¬ y3 = 0 → (((Lz_first (Sz_log v0)) ≤ (Rz_place (Sz_readers v0 e4_56)) → (Q 0)) ∧ (¬ (Lz_first (Sz_log v0)) ≤ (Rz_place (Sz_readers v0 e4_56)) → (Q 3)))))))
set_option maxRecDepth 100000 in
theorem zJ_S_faultOfJoining_56 {x1 : Int32} {x1z : Int} {x2 : Int32} {x2z : Int} {x3 : Int32} {x3z : Int} {v0 : ST} {v0z : SZ} {y3 : Int32} {y3z : Int} {y5 : Int32} {y5z : Int} {e4_56 e4_56z : Nat} {Q : Int32 → Prop} {Qz : (Int → Prop)} (e_x1 : x1.toInt = x1z) (e_x2 : x2.toInt = x2z) (e_x3 : x3.toInt = x3z) (e_v0 : (aS v0) = v0z) (e_e4_56 : e4_56 = e4_56z) (e_y3 : y3.toInt = y3z) (e_y5 : y5.toInt = y5z) (h_Q : ∀ (a0 : Int32), Qz a0.toInt → Q a0) (h : ZJ_S_faultOfJoining_56 x1z x2z x3z v0z e4_56z y3z y5z Qz) : PJ_S_faultOfJoining_56 x1 x2 x3 v0 e4_56 y3 y5 Q := by
  subst e_x1
  subst e_x2
  subst e_x3
  subst e_v0
  subst e_e4_56
  subst e_y3
  subst e_y5
  unfold ZJ_S_faultOfJoining_56 at h
  unfold PJ_S_faultOfJoining_56
  refine ⟨fun c3q => ?_, fun c3q => ?_⟩
  · have h := h.1 ((zt_eq rfl rfl).mp c3q)
    exact h_Q _ h
  · have h := h.2 (fun k => c3q ((zt_eq rfl rfl).mpr k))
    refine ⟨fun c2q => ?_, fun c2q => ?_⟩
    · have h := h.1 ((zt_eq rfl rfl).mp c2q)
      exact h_Q _ h
    · have h := h.2 (fun k => c2q ((zt_eq rfl rfl).mpr k))
      refine ⟨fun c1q => ?_, fun c1q => ?_⟩
      · have h := h.1 ((zt_le rfl rfl).mp c1q)
        exact h_Q _ h
      · have h := h.2 (fun k => c1q ((zt_le rfl rfl).mpr k))
        exact h_Q _ h
def ZJ_S_faultOfJoining_33 (x1 : Int) (x2 : Int) (x3 : Int) (v0 : SZ) (e4_33 : Nat) (y3 : Int) (u0 : Int) (Q : (Int → Prop)) : Prop := ((¬ (Rz_present (Sz_readers v0 e4_33)) = 0 → (Q 3)) ∧ ((Rz_present (Sz_readers v0 e4_33)) = 0 → ((u0 = 0 → (ZJ_S_faultOfJoining_56 x1 x2 x3 v0 e4_33 y3 u0 Q)) ∧ (¬ u0 = 0 → (((Rz_hasLeft (Sz_readers v0 e4_33)) = 0 → (Q 3)) ∧ (¬ (Rz_hasLeft (Sz_readers v0 e4_33)) = 0 → (ZJ_S_faultOfJoining_56 x1 x2 x3 v0 e4_33 y3 u0 Q)))))))
set_option maxRecDepth 100000 in
theorem zJ_S_faultOfJoining_33 {x1 : Int32} {x1z : Int} {x2 : Int32} {x2z : Int} {x3 : Int32} {x3z : Int} {v0 : ST} {v0z : SZ} {y3 : Int32} {y3z : Int} {u0 : Int32} {u0z : Int} {e4_33 e4_33z : Nat} {Q : Int32 → Prop} {Qz : (Int → Prop)} (e_x1 : x1.toInt = x1z) (e_x2 : x2.toInt = x2z) (e_x3 : x3.toInt = x3z) (e_v0 : (aS v0) = v0z) (e_e4_33 : e4_33 = e4_33z) (e_y3 : y3.toInt = y3z) (e_u0 : u0.toInt = u0z) (h_Q : ∀ (a0 : Int32), Qz a0.toInt → Q a0) (h : ZJ_S_faultOfJoining_33 x1z x2z x3z v0z e4_33z y3z u0z Qz) : PJ_S_faultOfJoining_33 x1 x2 x3 v0 e4_33 y3 u0 Q := by
  subst e_x1
  subst e_x2
  subst e_x3
  subst e_v0
  subst e_e4_33
  subst e_y3
  subst e_u0
  unfold ZJ_S_faultOfJoining_33 at h
  unfold PJ_S_faultOfJoining_33
  refine ⟨fun c3q => ?_, fun c3q => ?_⟩
  · have h := h.1 (fun k => c3q ((zt_eq rfl rfl).mpr k))
    exact h_Q _ h
  · have h := h.2 ((zt_eq rfl rfl).mp c3q)
    refine ⟨fun c2q => ?_, fun c2q => ?_⟩
    · have h := h.1 ((zt_eq rfl rfl).mp c2q)
      refine zJ_S_faultOfJoining_56 rfl rfl rfl rfl rfl rfl rfl h_Q h
    · have h := h.2 (fun k => c2q ((zt_eq rfl rfl).mpr k))
      refine ⟨fun c1q => ?_, fun c1q => ?_⟩
      · have h := h.1 ((zt_eq rfl rfl).mp c1q)
        exact h_Q _ h
      · have h := h.2 (fun k => c1q ((zt_eq rfl rfl).mpr k))
        refine zJ_S_faultOfJoining_56 rfl rfl rfl rfl rfl rfl rfl h_Q h
def Z_S_faultOfJoining (x1 : Int) (x2 : Int) (x3 : Int) (v0 : SZ) (Q : (Int → Prop)) : Prop := (Z_S_named x1 v0 (fun r5_ => ((r5_ = none → (Q 2)) ∧ (∀ i7_, r5_ = some i7_ → (Z_T_isIn x2 0 2 (fun r9_ => ((¬ r9_ = 0 → ((¬ x2 = 2 → (ZJ_S_faultOfJoining_33 x1 x2 x3 v0 i7_ x3 0 Q)) ∧ (x2 = 2 → (ZJ_S_faultOfJoining_33 x1 x2 x3 v0 i7_ x3 1 Q)))) ∧ (r9_ = 0 → (Q 2)))))))))
set_option maxRecDepth 100000 in
theorem z_S_faultOfJoining {x1 : Int32} {x1z : Int} {x2 : Int32} {x2z : Int} {x3 : Int32} {x3z : Int} {v0 : ST} {v0z : SZ}  {Q : Int32 → Prop} {Qz : (Int → Prop)} (e_x1 : x1.toInt = x1z) (e_x2 : x2.toInt = x2z) (e_x3 : x3.toInt = x3z) (e_v0 : (aS v0) = v0z) (h_Q : ∀ (a0 : Int32), Qz a0.toInt → Q a0) (h : Z_S_faultOfJoining x1z x2z x3z v0z Qz) : P_S_faultOfJoining x1 x2 x3 v0 Q := by
  subst e_x1
  subst e_x2
  subst e_x3
  subst e_v0
  unfold Z_S_faultOfJoining at h
  unfold P_S_faultOfJoining
  refine z_S_named rfl rfl (fun r5_ h => ?_) h
  refine ⟨fun c => ?_, fun i7_ c => ?_⟩
  · have h := h.1 c
    exact h_Q _ h
  · have h := h.2 i7_ c
    refine z_T_isIn rfl rfl rfl (fun r9_ h => ?_) h
    refine ⟨fun c2q => ?_, fun c2q => ?_⟩
    · have h := h.1 (fun k => c2q ((zt_eq rfl rfl).mpr k))
      refine ⟨fun c1q => ?_, fun c1q => ?_⟩
      · have h := h.1 (fun k => c1q ((zt_eq rfl rfl).mpr k))
        refine zJ_S_faultOfJoining_33 rfl rfl rfl rfl rfl rfl rfl h_Q h
      · have h := h.2 ((zt_eq rfl rfl).mp c1q)
        refine zJ_S_faultOfJoining_33 rfl rfl rfl rfl rfl rfl rfl h_Q h
    · have h := h.2 ((zt_eq rfl rfl).mp c2q)
      exact h_Q _ h

def Z_S_faultOf (x1 : Int) (x2 : Int) (x3 : Int) (x4 : Int) (v0 : SZ) (Q : (Int → Prop)) : Prop := ((x1 = 0 → (Z_S_faultOfWriting x2 x3 x4 v0 (fun r2_ => (Q r2_)))) ∧ (¬ x1 = 0 → ((x1 = 1 → ((¬ x4 = 1 → (Z_S_faultOfJoining x2 x3 0 v0 (fun r8_ => (Q r8_)))) ∧ (x4 = 1 → (Z_S_faultOfJoining x2 x3 1 v0 (fun r12_ => (Q r12_)))))) ∧ (¬ x1 = 1 → ((x1 = 2 → (Z_S_reader x2 v0 (fun r21_ => ((r21_ = none → (Q 1)) ∧ (∀ i23_, r21_ = some i23_ → (Z_T_isIn x3 1 50 (fun r25_ => ((r25_ = 0 → (Q 2)) ∧ (¬ r25_ = 0 → (Q 0)))))))))) ∧ (¬ x1 = 2 → ((x1 = 3 → (Z_S_reader x2 v0 (fun r35_ => ((r35_ = none → (Q 1)) ∧ (∀ i37_, r35_ = some i37_ → (Q 0)))))) ∧ (¬ x1 = 3 → ((x1 = 4 → (Z_S_reader x2 v0 (fun r44_ => ((r44_ = none → (Q 1)) ∧ (∀ i46_, r44_ = some i46_ → ((¬ x3 = 1 → (Q 0)) ∧ (x3 = 1 → (Z_S_hasGap x2 v0 (fun r49_ => ((r49_ = 0 → (Q 0)) ∧ (¬ r49_ = 0 → (Q 3)))))))))))) ∧ (¬ x1 = 4 → ((x1 = 5 → (Z_T_isIn x2 0 5 (fun r55_ => ((r55_ = 0 → (Q 2)) ∧ (¬ r55_ = 0 → (Z_T_at 6 x2 (zSvz 1) (fun r60_ => (Z_T_at 6 x2 (zSvz 2) (fun r64_ => (Z_T_isIn x3 r60_ r64_ (fun r68_ => ((r68_ = 0 → (Q 2)) ∧ (¬ r68_ = 0 → (Q 0)))))))))))))) ∧ (¬ x1 = 5 → ((x1 = 6 → (Z_T_isIn x2 1 99 (fun r74_ => ((r74_ = 0 → (Q 2)) ∧ (¬ r74_ = 0 → (Q 0)))))) ∧ (¬ x1 = 6 → (Q 2)))))))))))))))
set_option maxRecDepth 100000 in
theorem z_S_faultOf {x1 : Int32} {x1z : Int} {x2 : Int32} {x2z : Int} {x3 : Int32} {x3z : Int} {x4 : Int32} {x4z : Int} {v0 : ST} {v0z : SZ}  {Q : Int32 → Prop} {Qz : (Int → Prop)} (e_x1 : x1.toInt = x1z) (e_x2 : x2.toInt = x2z) (e_x3 : x3.toInt = x3z) (e_x4 : x4.toInt = x4z) (e_v0 : (aS v0) = v0z) (h_Q : ∀ (a0 : Int32), Qz a0.toInt → Q a0) (h : Z_S_faultOf x1z x2z x3z x4z v0z Qz) : P_S_faultOf x1 x2 x3 x4 v0 Q := by
  subst e_x1
  subst e_x2
  subst e_x3
  subst e_x4
  subst e_v0
  unfold Z_S_faultOf at h
  unfold P_S_faultOf
  refine ⟨fun c14q => ?_, fun c14q => ?_⟩
  · have h := h.1 ((zt_eq rfl rfl).mp c14q)
    refine z_S_faultOfWriting rfl rfl rfl rfl (fun r2_ h => ?_) h
    exact h_Q _ h
  · have h := h.2 (fun k => c14q ((zt_eq rfl rfl).mpr k))
    refine ⟨fun c13q => ?_, fun c13q => ?_⟩
    · have h := h.1 ((zt_eq rfl rfl).mp c13q)
      refine ⟨fun c1q => ?_, fun c1q => ?_⟩
      · have h := h.1 (fun k => c1q ((zt_eq rfl rfl).mpr k))
        refine z_S_faultOfJoining rfl rfl rfl rfl (fun r8_ h => ?_) h
        exact h_Q _ h
      · have h := h.2 ((zt_eq rfl rfl).mp c1q)
        refine z_S_faultOfJoining rfl rfl rfl rfl (fun r12_ h => ?_) h
        exact h_Q _ h
    · have h := h.2 (fun k => c13q ((zt_eq rfl rfl).mpr k))
      refine ⟨fun c12q => ?_, fun c12q => ?_⟩
      · have h := h.1 ((zt_eq rfl rfl).mp c12q)
        refine z_S_reader rfl rfl (fun r21_ h => ?_) h
        refine ⟨fun c => ?_, fun i23_ c => ?_⟩
        · have h := h.1 c
          exact h_Q _ h
        · have h := h.2 i23_ c
          refine z_T_isIn rfl rfl rfl (fun r25_ h => ?_) h
          refine ⟨fun c2q => ?_, fun c2q => ?_⟩
          · have h := h.1 ((zt_eq rfl rfl).mp c2q)
            exact h_Q _ h
          · have h := h.2 (fun k => c2q ((zt_eq rfl rfl).mpr k))
            exact h_Q _ h
      · have h := h.2 (fun k => c12q ((zt_eq rfl rfl).mpr k))
        refine ⟨fun c11q => ?_, fun c11q => ?_⟩
        · have h := h.1 ((zt_eq rfl rfl).mp c11q)
          refine z_S_reader rfl rfl (fun r35_ h => ?_) h
          refine ⟨fun c => ?_, fun i37_ c => ?_⟩
          · have h := h.1 c
            exact h_Q _ h
          · have h := h.2 i37_ c
            exact h_Q _ h
        · have h := h.2 (fun k => c11q ((zt_eq rfl rfl).mpr k))
          refine ⟨fun c10q => ?_, fun c10q => ?_⟩
          · have h := h.1 ((zt_eq rfl rfl).mp c10q)
            refine z_S_reader rfl rfl (fun r44_ h => ?_) h
            refine ⟨fun c => ?_, fun i46_ c => ?_⟩
            · have h := h.1 c
              exact h_Q _ h
            · have h := h.2 i46_ c
              refine ⟨fun c4q => ?_, fun c4q => ?_⟩
              · have h := h.1 (fun k => c4q ((zt_eq rfl rfl).mpr k))
                exact h_Q _ h
              · have h := h.2 ((zt_eq rfl rfl).mp c4q)
                refine z_S_hasGap rfl rfl (fun r49_ h => ?_) h
                refine ⟨fun c3q => ?_, fun c3q => ?_⟩
                · have h := h.1 ((zt_eq rfl rfl).mp c3q)
                  exact h_Q _ h
                · have h := h.2 (fun k => c3q ((zt_eq rfl rfl).mpr k))
                  exact h_Q _ h
          · have h := h.2 (fun k => c10q ((zt_eq rfl rfl).mpr k))
            refine ⟨fun c9q => ?_, fun c9q => ?_⟩
            · have h := h.1 ((zt_eq rfl rfl).mp c9q)
              refine z_T_isIn rfl rfl rfl (fun r55_ h => ?_) h
              refine ⟨fun c6q => ?_, fun c6q => ?_⟩
              · have h := h.1 ((zt_eq rfl rfl).mp c6q)
                exact h_Q _ h
              · have h := h.2 (fun k => c6q ((zt_eq rfl rfl).mpr k))
                refine z_T_at rfl rfl (show (aA (zSv 1)) = (zSvz 1) from zt_Sv) (fun r60_ h => ?_) h
                refine z_T_at rfl rfl (show (aA (zSv 2)) = (zSvz 2) from zt_Sv) (fun r64_ h => ?_) h
                refine z_T_isIn rfl rfl rfl (fun r68_ h => ?_) h
                refine ⟨fun c5q => ?_, fun c5q => ?_⟩
                · have h := h.1 ((zt_eq rfl rfl).mp c5q)
                  exact h_Q _ h
                · have h := h.2 (fun k => c5q ((zt_eq rfl rfl).mpr k))
                  exact h_Q _ h
            · have h := h.2 (fun k => c9q ((zt_eq rfl rfl).mpr k))
              refine ⟨fun c8q => ?_, fun c8q => ?_⟩
              · have h := h.1 ((zt_eq rfl rfl).mp c8q)
                refine z_T_isIn rfl rfl rfl (fun r74_ h => ?_) h
                refine ⟨fun c7q => ?_, fun c7q => ?_⟩
                · have h := h.1 ((zt_eq rfl rfl).mp c7q)
                  exact h_Q _ h
                · have h := h.2 (fun k => c7q ((zt_eq rfl rfl).mpr k))
                  exact h_Q _ h
              · have h := h.2 (fun k => c8q ((zt_eq rfl rfl).mpr k))
                exact h_Q _ h

def ZL_S_letIn_57 : Nat → Option Nat → Int → Int → Nat → Int → Int → SZ → (Int → SZ → Prop) → Prop
  | 0, _, _, _, _, _, _, _, _ => False
  | n + 1, r1, x2, x3, e1_57, y3, y4, v0, Q => ((8 ≤ y4 → (Z_R_arrive (Sz_time v0) y3 (Sz_readers v0 e1_57) (fun v30_ => (∀ v35_, v35_ = (Sz_seti_readers v0 e1_57 v30_) → ((Q (Rz_place (Sz_readers v35_ e1_57)) v35_)))))) ∧ (¬ 8 ≤ y4 → (Z_L_toldForwards y4 (Lz_end (Sz_log v0)) (Sz_log v0) (fun r38_ => (Z_T_put 8 y4 r38_ (Rz_values (Sz_readers v0 e1_57)) (fun v46_ => (∀ v53_, v53_ = (Sz_seti_readers v0 e1_57 (Rz_set_values (Sz_readers v0 e1_57) v46_)) → (zin (y4 + 1) ∧ (ZL_S_letIn_57 n r1 x2 x3 e1_57 y3 (y4 + 1) v53_ Q)))))))))
set_option maxRecDepth 100000 in
theorem zL_S_letIn_57 (n : Nat) : ∀ {x2 : Int32} {x2z : Int} {x3 : Int32} {x3z : Int} {y3 : Int32} {y3z : Int} {y4 : Int32} {y4z : Int} {v0 : ST} {v0z : SZ} {r1 r1z : Option Nat} {e1_57 e1_57z : Nat} {Q : Int32 → ST → Prop} {Qz : (Int → SZ → Prop)} (e_r1 : r1 = r1z) (e_x2 : x2.toInt = x2z) (e_x3 : x3.toInt = x3z) (e_e1_57 : e1_57 = e1_57z) (e_y3 : y3.toInt = y3z) (e_y4 : y4.toInt = y4z) (e_v0 : (aS v0) = v0z) (h_Q : ∀ (a0 : Int32) (a1 : ST), Qz a0.toInt (aS a1) → Q a0 a1) (h : ZL_S_letIn_57 n r1z x2z x3z e1_57z y3z y4z v0z Qz), PL_S_letIn_57 n r1 x2 x3 e1_57 y3 y4 v0 Q := by
  induction n with
  | zero =>
    intro x2 x2z x3 x3z y3 y3z y4 y4z v0 v0z r1 r1z e1_57 e1_57z Q Qz e_r1 e_x2 e_x3 e_e1_57 e_y3 e_y4 e_v0 h_Q h
    exact (h : False).elim
  | succ n ih =>
    intro x2 x2z x3 x3z y3 y3z y4 y4z v0 v0z r1 r1z e1_57 e1_57z Q Qz e_r1 e_x2 e_x3 e_e1_57 e_y3 e_y4 e_v0 h_Q h
    subst e_r1
    subst e_x2
    subst e_x3
    subst e_e1_57
    subst e_y3
    subst e_y4
    subst e_v0
    rw [ZL_S_letIn_57] at h
    rw [PL_S_letIn_57]
    refine ⟨fun c2q => ?_, fun c2q => ?_⟩
    · have h := h.1 ((zt_le rfl rfl).mp c2q)
      refine z_R_arrive rfl rfl rfl (fun v30_ h => ?_) h
      intro v35_ ev35_
      have h := h (aS v35_) (by rw [ev35_]; exact (show (aS (S_seti_readers v0 e1_57 v30_)) = (Sz_seti_readers (aS v0) e1_57 (aR v30_)) from (zt_seti_S_readers rfl rfl rfl)))
      exact h_Q _ _ h
    · have h := h.2 (fun k => c2q ((zt_le rfl rfl).mpr k))
      refine z_L_toldForwards rfl rfl rfl (fun r38_ h => ?_) h
      refine z_T_put rfl rfl rfl rfl (fun v46_ h => ?_) h
      intro v53_ ev53_
      have h := h (aS v53_) (by rw [ev53_]; exact (show (aS (S_seti_readers v0 e1_57 (R_set_values (S_readers v0 e1_57) v46_))) = (Sz_seti_readers (aS v0) e1_57 (Rz_set_values (Sz_readers (aS v0) e1_57) (aA v46_))) from (zt_seti_S_readers rfl rfl rfl)))
      obtain ⟨o1q, h⟩ := h
      refine ih rfl rfl rfl rfl rfl (show (((y4 + 1) : Int32)).toInt = ((y4.toInt + 1) : Int) from (zt_add rfl rfl o1q)) rfl h_Q h
def Z_S_letIn (r1 : Option Nat) (x2 : Int) (x3 : Int) (v0 : SZ) (Q : (Int → SZ → Prop)) : Prop := ((r1 = none → (Q (-1) v0)) ∧ (∀ ir1, r1 = some ir1 → ((¬ x2 = 0 → ((¬ x2 = 1 → (Z_R_arrive (Sz_time v0) x3 (Sz_readers v0 ir1) (fun v7_ => (∀ v12_, v12_ = (Sz_seti_readers v0 ir1 v7_) → ((Q (Rz_place (Sz_readers v12_ ir1)) v12_)))))) ∧ (x2 = 1 → (∀ v22_, v22_ = (Sz_seti_readers v0 ir1 (Rz_set_place (Sz_readers v0 ir1) (Lz_end (Sz_log v0)))) → ((∃ n56_, (ZL_S_letIn_57 n56_ r1 x2 x3 ir1 x3 0 v22_ Q))))))) ∧ (x2 = 0 → (∀ v64_, v64_ = (Sz_seti_readers v0 ir1 (Rz_set_place (Sz_readers v0 ir1) (Lz_first (Sz_log v0)))) → ((Z_T_copy 8 8 (Lz_dropValues (Sz_log v64_)) (Rz_values (Sz_readers v64_ ir1)) (fun v71_ => (∀ v78_, v78_ = (Sz_seti_readers v64_ ir1 (Rz_set_values (Sz_readers v64_ ir1) v71_)) → ((Z_R_arrive (Sz_time v78_) x3 (Sz_readers v78_ ir1) (fun v85_ => (∀ v90_, v90_ = (Sz_seti_readers v78_ ir1 v85_) → ((Q (Rz_place (Sz_readers v90_ ir1)) v90_)))))))))))))))
set_option maxRecDepth 100000 in
theorem z_S_letIn {x2 : Int32} {x2z : Int} {x3 : Int32} {x3z : Int} {v0 : ST} {v0z : SZ} {r1 r1z : Option Nat} {Q : Int32 → ST → Prop} {Qz : (Int → SZ → Prop)} (e_r1 : r1 = r1z) (e_x2 : x2.toInt = x2z) (e_x3 : x3.toInt = x3z) (e_v0 : (aS v0) = v0z) (h_Q : ∀ (a0 : Int32) (a1 : ST), Qz a0.toInt (aS a1) → Q a0 a1) (h : Z_S_letIn r1z x2z x3z v0z Qz) : P_S_letIn r1 x2 x3 v0 Q := by
  subst e_r1
  subst e_x2
  subst e_x3
  subst e_v0
  unfold Z_S_letIn at h
  unfold P_S_letIn
  refine ⟨fun c => ?_, fun ir1 c => ?_⟩
  · have h := h.1 c
    exact h_Q _ _ h
  · have h := h.2 ir1 c
    refine ⟨fun c2q => ?_, fun c2q => ?_⟩
    · have h := h.1 (fun k => c2q ((zt_eq rfl rfl).mpr k))
      refine ⟨fun c1q => ?_, fun c1q => ?_⟩
      · have h := h.1 (fun k => c1q ((zt_eq rfl rfl).mpr k))
        refine z_R_arrive rfl rfl rfl (fun v7_ h => ?_) h
        intro v12_ ev12_
        have h := h (aS v12_) (by rw [ev12_]; exact (show (aS (S_seti_readers v0 ir1 v7_)) = (Sz_seti_readers (aS v0) ir1 (aR v7_)) from (zt_seti_S_readers rfl rfl rfl)))
        exact h_Q _ _ h
      · have h := h.2 ((zt_eq rfl rfl).mp c1q)
        intro v22_ ev22_
        have h := h (aS v22_) (by rw [ev22_]; exact (show (aS (S_seti_readers v0 ir1 (R_set_place (S_readers v0 ir1) (L_end (S_log v0))))) = (Sz_seti_readers (aS v0) ir1 (Rz_set_place (Sz_readers (aS v0) ir1) (Lz_end (Sz_log (aS v0))))) from (zt_seti_S_readers rfl rfl rfl)))
        obtain ⟨n56_, h⟩ := h
        refine ⟨n56_, ?_⟩
        refine zL_S_letIn_57 n56_ rfl rfl rfl rfl rfl rfl rfl h_Q h
    · have h := h.2 ((zt_eq rfl rfl).mp c2q)
      intro v64_ ev64_
      have h := h (aS v64_) (by rw [ev64_]; exact (show (aS (S_seti_readers v0 ir1 (R_set_place (S_readers v0 ir1) (L_first (S_log v0))))) = (Sz_seti_readers (aS v0) ir1 (Rz_set_place (Sz_readers (aS v0) ir1) (Lz_first (Sz_log (aS v0))))) from (zt_seti_S_readers rfl rfl rfl)))
      refine z_T_copy rfl rfl rfl rfl (fun v71_ h => ?_) h
      intro v78_ ev78_
      have h := h (aS v78_) (by rw [ev78_]; exact (show (aS (S_seti_readers v64_ ir1 (R_set_values (S_readers v64_ ir1) v71_))) = (Sz_seti_readers (aS v64_) ir1 (Rz_set_values (Sz_readers (aS v64_) ir1) (aA v71_))) from (zt_seti_S_readers rfl rfl rfl)))
      refine z_R_arrive rfl rfl rfl (fun v85_ h => ?_) h
      intro v90_ ev90_
      have h := h (aS v90_) (by rw [ev90_]; exact (show (aS (S_seti_readers v78_ ir1 v85_)) = (Sz_seti_readers (aS v78_) ir1 (aR v85_)) from (zt_seti_S_readers rfl rfl rfl)))
      exact h_Q _ _ h

def Z_S_tellGap (i1 : Nat) (v0 : SZ) (Q : (Int → SZ → Prop)) : Prop := zin ((Lz_first (Sz_log v0)) - (Rz_place (Sz_readers v0 i1))) ∧ zin ((Rz_missedSoFar (Sz_readers v0 i1)) + ((Lz_first (Sz_log v0)) - (Rz_place (Sz_readers v0 i1)))) ∧ (∀ v8_, v8_ = (Sz_seti_readers v0 i1 (Rz_set_missedSoFar (Sz_readers v0 i1) ((Rz_missedSoFar (Sz_readers v0 i1)) + ((Lz_first (Sz_log v0)) - (Rz_place (Sz_readers v0 i1)))))) → (zin ((Sz_missed v8_) + ((Lz_first (Sz_log v0)) - (Rz_place (Sz_readers v0 i1)))) ∧ (∀ v16_, v16_ = (Sz_set_missed v8_ ((Sz_missed v8_) + ((Lz_first (Sz_log v0)) - (Rz_place (Sz_readers v0 i1))))) → ((∀ v26_, v26_ = (Sz_seti_readers v16_ i1 (Rz_set_place (Sz_readers v16_ i1) (Lz_first (Sz_log v16_)))) → ((Z_T_copy 8 8 (Lz_dropValues (Sz_log v26_)) (Rz_values (Sz_readers v26_ i1)) (fun v33_ => (∀ v40_, v40_ = (Sz_seti_readers v26_ i1 (Rz_set_values (Sz_readers v26_ i1) v33_)) → ((Q ((Lz_first (Sz_log v0)) - (Rz_place (Sz_readers v0 i1))) v40_)))))))))))
set_option maxRecDepth 100000 in
theorem z_S_tellGap {v0 : ST} {v0z : SZ} {i1 i1z : Nat} {Q : Int32 → ST → Prop} {Qz : (Int → SZ → Prop)} (e_i1 : i1 = i1z) (e_v0 : (aS v0) = v0z) (h_Q : ∀ (a0 : Int32) (a1 : ST), Qz a0.toInt (aS a1) → Q a0 a1) (h : Z_S_tellGap i1z v0z Qz) : P_S_tellGap i1 v0 Q := by
  subst e_i1
  subst e_v0
  unfold Z_S_tellGap at h
  unfold P_S_tellGap
  obtain ⟨o1q, h⟩ := h
  obtain ⟨o2q, h⟩ := h
  intro v8_ ev8_
  have h := h (aS v8_) (by rw [ev8_]; exact (show (aS (S_seti_readers v0 i1 (R_set_missedSoFar (S_readers v0 i1) ((R_missedSoFar (S_readers v0 i1)) + ((L_first (S_log v0)) - (R_place (S_readers v0 i1))))))) = (Sz_seti_readers (aS v0) i1 (Rz_set_missedSoFar (Sz_readers (aS v0) i1) ((Rz_missedSoFar (Sz_readers (aS v0) i1)) + ((Lz_first (Sz_log (aS v0))) - (Rz_place (Sz_readers (aS v0) i1)))))) from (zt_seti_S_readers rfl rfl (show (aR (R_set_missedSoFar (S_readers v0 i1) ((R_missedSoFar (S_readers v0 i1)) + ((L_first (S_log v0)) - (R_place (S_readers v0 i1)))))) = (Rz_set_missedSoFar (Sz_readers (aS v0) i1) ((Rz_missedSoFar (Sz_readers (aS v0) i1)) + ((Lz_first (Sz_log (aS v0))) - (Rz_place (Sz_readers (aS v0) i1))))) from (congrArg (fun k => Rz_set_missedSoFar (Sz_readers (aS v0) i1) k) (show ((((R_missedSoFar (S_readers v0 i1)) + ((L_first (S_log v0)) - (R_place (S_readers v0 i1)))) : Int32)).toInt = (((Rz_missedSoFar (Sz_readers (aS v0) i1)) + ((Lz_first (Sz_log (aS v0))) - (Rz_place (Sz_readers (aS v0) i1)))) : Int) from (zt_add rfl (show ((((L_first (S_log v0)) - (R_place (S_readers v0 i1))) : Int32)).toInt = (((Lz_first (Sz_log (aS v0))) - (Rz_place (Sz_readers (aS v0) i1))) : Int) from (zt_sub rfl rfl o1q)) o2q)))))))
  obtain ⟨o3q, h⟩ := h
  intro v16_ ev16_
  have h := h (aS v16_) (by rw [ev16_]; exact (show (aS (S_set_missed v8_ ((S_missed v8_) + ((L_first (S_log v0)) - (R_place (S_readers v0 i1)))))) = (Sz_set_missed (aS v8_) ((Sz_missed (aS v8_)) + ((Lz_first (Sz_log (aS v0))) - (Rz_place (Sz_readers (aS v0) i1))))) from (congrArg (fun k => Sz_set_missed (aS v8_) k) (show ((((S_missed v8_) + ((L_first (S_log v0)) - (R_place (S_readers v0 i1)))) : Int32)).toInt = (((Sz_missed (aS v8_)) + ((Lz_first (Sz_log (aS v0))) - (Rz_place (Sz_readers (aS v0) i1)))) : Int) from (zt_add rfl (show ((((L_first (S_log v0)) - (R_place (S_readers v0 i1))) : Int32)).toInt = (((Lz_first (Sz_log (aS v0))) - (Rz_place (Sz_readers (aS v0) i1))) : Int) from (zt_sub rfl rfl o1q)) o3q)))))
  intro v26_ ev26_
  have h := h (aS v26_) (by rw [ev26_]; exact (show (aS (S_seti_readers v16_ i1 (R_set_place (S_readers v16_ i1) (L_first (S_log v16_))))) = (Sz_seti_readers (aS v16_) i1 (Rz_set_place (Sz_readers (aS v16_) i1) (Lz_first (Sz_log (aS v16_))))) from (zt_seti_S_readers rfl rfl rfl)))
  refine z_T_copy rfl rfl rfl rfl (fun v33_ h => ?_) h
  intro v40_ ev40_
  have h := h (aS v40_) (by rw [ev40_]; exact (show (aS (S_seti_readers v26_ i1 (R_set_values (S_readers v26_ i1) v33_))) = (Sz_seti_readers (aS v26_) i1 (Rz_set_values (Sz_readers (aS v26_) i1) (aA v33_))) from (zt_seti_S_readers rfl rfl rfl)))
  exact h_Q _ _ (Eq.mpr (congrArg (fun k => Qz k (aS v40_)) (show ((((L_first (S_log v0)) - (R_place (S_readers v0 i1))) : Int32)).toInt = (((Lz_first (Sz_log (aS v0))) - (Rz_place (Sz_readers (aS v0) i1))) : Int) from (zt_sub rfl rfl o1q))) h)

def ZL_S_readOn_2 : Nat → Nat → Int → Int → Int → SZ → (Int → SZ → Prop) → Prop
  | 0, _, _, _, _, _, _ => False
  | n + 1, i1, x2, y2, y3, v0, Q => ((y2 ≤ y3 → zin ((Rz_place (Sz_readers v0 i1)) + y2) ∧ (∀ v9_, v9_ = (Sz_seti_readers v0 i1 (Rz_set_place (Sz_readers v0 i1) ((Rz_place (Sz_readers v0 i1)) + y2))) → (zin ((Rz_readSoFar (Sz_readers v9_ i1)) + y2) ∧ (∀ v19_, v19_ = (Sz_seti_readers v9_ i1 (Rz_set_readSoFar (Sz_readers v9_ i1) ((Rz_readSoFar (Sz_readers v9_ i1)) + y2))) → ((Q y2 v19_)))))) ∧ (¬ y2 ≤ y3 → zin ((Rz_place (Sz_readers v0 i1)) + y3) ∧ (Z_T_at 200 ((Rz_place (Sz_readers v0 i1)) + y3) (Lz_keys (Sz_log v0)) (fun r22_ => (Z_T_at 200 ((Rz_place (Sz_readers v0 i1)) + y3) (Lz_values (Sz_log v0)) (fun r26_ => (Z_T_put 8 r22_ r26_ (Rz_values (Sz_readers v0 i1)) (fun v34_ => (∀ v41_, v41_ = (Sz_seti_readers v0 i1 (Rz_set_values (Sz_readers v0 i1) v34_)) → (zin (y3 + 1) ∧ (ZL_S_readOn_2 n i1 x2 y2 (y3 + 1) v41_ Q)))))))))))
set_option maxRecDepth 100000 in
theorem zL_S_readOn_2 (n : Nat) : ∀ {x2 : Int32} {x2z : Int} {y2 : Int32} {y2z : Int} {y3 : Int32} {y3z : Int} {v0 : ST} {v0z : SZ} {i1 i1z : Nat} {Q : Int32 → ST → Prop} {Qz : (Int → SZ → Prop)} (e_i1 : i1 = i1z) (e_x2 : x2.toInt = x2z) (e_y2 : y2.toInt = y2z) (e_y3 : y3.toInt = y3z) (e_v0 : (aS v0) = v0z) (h_Q : ∀ (a0 : Int32) (a1 : ST), Qz a0.toInt (aS a1) → Q a0 a1) (h : ZL_S_readOn_2 n i1z x2z y2z y3z v0z Qz), PL_S_readOn_2 n i1 x2 y2 y3 v0 Q := by
  induction n with
  | zero =>
    intro x2 x2z y2 y2z y3 y3z v0 v0z i1 i1z Q Qz e_i1 e_x2 e_y2 e_y3 e_v0 h_Q h
    exact (h : False).elim
  | succ n ih =>
    intro x2 x2z y2 y2z y3 y3z v0 v0z i1 i1z Q Qz e_i1 e_x2 e_y2 e_y3 e_v0 h_Q h
    subst e_i1
    subst e_x2
    subst e_y2
    subst e_y3
    subst e_v0
    rw [ZL_S_readOn_2] at h
    rw [PL_S_readOn_2]
    refine ⟨fun c5q => ?_, fun c5q => ?_⟩
    · have h := h.1 ((zt_le rfl rfl).mp c5q)
      obtain ⟨o1q, h⟩ := h
      intro v9_ ev9_
      have h := h (aS v9_) (by rw [ev9_]; exact (show (aS (S_seti_readers v0 i1 (R_set_place (S_readers v0 i1) ((R_place (S_readers v0 i1)) + y2)))) = (Sz_seti_readers (aS v0) i1 (Rz_set_place (Sz_readers (aS v0) i1) ((Rz_place (Sz_readers (aS v0) i1)) + y2.toInt))) from (zt_seti_S_readers rfl rfl (show (aR (R_set_place (S_readers v0 i1) ((R_place (S_readers v0 i1)) + y2))) = (Rz_set_place (Sz_readers (aS v0) i1) ((Rz_place (Sz_readers (aS v0) i1)) + y2.toInt)) from (congrArg (fun k => Rz_set_place (Sz_readers (aS v0) i1) k) (show ((((R_place (S_readers v0 i1)) + y2) : Int32)).toInt = (((Rz_place (Sz_readers (aS v0) i1)) + y2.toInt) : Int) from (zt_add rfl rfl o1q)))))))
      obtain ⟨o2q, h⟩ := h
      intro v19_ ev19_
      have h := h (aS v19_) (by rw [ev19_]; exact (show (aS (S_seti_readers v9_ i1 (R_set_readSoFar (S_readers v9_ i1) ((R_readSoFar (S_readers v9_ i1)) + y2)))) = (Sz_seti_readers (aS v9_) i1 (Rz_set_readSoFar (Sz_readers (aS v9_) i1) ((Rz_readSoFar (Sz_readers (aS v9_) i1)) + y2.toInt))) from (zt_seti_S_readers rfl rfl (show (aR (R_set_readSoFar (S_readers v9_ i1) ((R_readSoFar (S_readers v9_ i1)) + y2))) = (Rz_set_readSoFar (Sz_readers (aS v9_) i1) ((Rz_readSoFar (Sz_readers (aS v9_) i1)) + y2.toInt)) from (congrArg (fun k => Rz_set_readSoFar (Sz_readers (aS v9_) i1) k) (show ((((R_readSoFar (S_readers v9_ i1)) + y2) : Int32)).toInt = (((Rz_readSoFar (Sz_readers (aS v9_) i1)) + y2.toInt) : Int) from (zt_add rfl rfl o2q)))))))
      exact h_Q _ _ h
    · have h := h.2 (fun k => c5q ((zt_le rfl rfl).mpr k))
      obtain ⟨o3q, h⟩ := h
      refine z_T_at rfl (show ((((R_place (S_readers v0 i1)) + y3) : Int32)).toInt = (((Rz_place (Sz_readers (aS v0) i1)) + y3.toInt) : Int) from (zt_add rfl rfl o3q)) rfl (fun r22_ h => ?_) h
      refine z_T_at rfl (show ((((R_place (S_readers v0 i1)) + y3) : Int32)).toInt = (((Rz_place (Sz_readers (aS v0) i1)) + y3.toInt) : Int) from (zt_add rfl rfl o3q)) rfl (fun r26_ h => ?_) h
      refine z_T_put rfl rfl rfl rfl (fun v34_ h => ?_) h
      intro v41_ ev41_
      have h := h (aS v41_) (by rw [ev41_]; exact (show (aS (S_seti_readers v0 i1 (R_set_values (S_readers v0 i1) v34_))) = (Sz_seti_readers (aS v0) i1 (Rz_set_values (Sz_readers (aS v0) i1) (aA v34_))) from (zt_seti_S_readers rfl rfl rfl)))
      obtain ⟨o4q, h⟩ := h
      refine ih rfl rfl rfl (show (((y3 + 1) : Int32)).toInt = ((y3.toInt + 1) : Int) from (zt_add rfl rfl o4q)) rfl h_Q h
def Z_S_readOn (i1 : Nat) (x2 : Int) (v0 : SZ) (Q : (Int → SZ → Prop)) : Prop := (∃ n44_, (ZL_S_readOn_2 n44_ i1 x2 x2 0 v0 Q))
set_option maxRecDepth 100000 in
theorem z_S_readOn {x2 : Int32} {x2z : Int} {v0 : ST} {v0z : SZ} {i1 i1z : Nat} {Q : Int32 → ST → Prop} {Qz : (Int → SZ → Prop)} (e_i1 : i1 = i1z) (e_x2 : x2.toInt = x2z) (e_v0 : (aS v0) = v0z) (h_Q : ∀ (a0 : Int32) (a1 : ST), Qz a0.toInt (aS a1) → Q a0 a1) (h : Z_S_readOn i1z x2z v0z Qz) : P_S_readOn i1 x2 v0 Q := by
  subst e_i1
  subst e_x2
  subst e_v0
  unfold Z_S_readOn at h
  unfold P_S_readOn
  obtain ⟨n44_, h⟩ := h
  refine ⟨n44_, ?_⟩
  refine zL_S_readOn_2 n44_ rfl rfl rfl rfl rfl h_Q h

def Z_S_letRead (r1 : Option Nat) (x2 : Int) (v0 : SZ) (Q : (Int → SZ → Prop)) : Prop := ((r1 = none → (Q 0 v0)) ∧ (∀ ir1, r1 = some ir1 → (∀ v8_, v8_ = (Sz_seti_readers v0 ir1 (Rz_set_lastRead (Sz_readers v0 ir1) (Sz_time v0))) → ((((Lz_first (Sz_log v8_)) ≤ (Rz_place (Sz_readers v8_ ir1)) → zin ((Lz_end (Sz_log v8_)) - (Rz_place (Sz_readers v8_ ir1))) ∧ (Z_S_readOn ir1 (zminZ x2 ((Lz_end (Sz_log v8_)) - (Rz_place (Sz_readers v8_ ir1)))) v8_ (fun r12_ v16_ => (Q r12_ v16_)))) ∧ (¬ (Lz_first (Sz_log v8_)) ≤ (Rz_place (Sz_readers v8_ ir1)) → (Z_S_tellGap ir1 v8_ (fun r20_ v24_ => zin (-r20_) ∧ (Q (-r20_) v24_)))))))))
set_option maxRecDepth 100000 in
theorem z_S_letRead {x2 : Int32} {x2z : Int} {v0 : ST} {v0z : SZ} {r1 r1z : Option Nat} {Q : Int32 → ST → Prop} {Qz : (Int → SZ → Prop)} (e_r1 : r1 = r1z) (e_x2 : x2.toInt = x2z) (e_v0 : (aS v0) = v0z) (h_Q : ∀ (a0 : Int32) (a1 : ST), Qz a0.toInt (aS a1) → Q a0 a1) (h : Z_S_letRead r1z x2z v0z Qz) : P_S_letRead r1 x2 v0 Q := by
  subst e_r1
  subst e_x2
  subst e_v0
  unfold Z_S_letRead at h
  unfold P_S_letRead
  refine ⟨fun c => ?_, fun ir1 c => ?_⟩
  · have h := h.1 c
    exact h_Q _ _ h
  · have h := h.2 ir1 c
    intro v8_ ev8_
    have h := h (aS v8_) (by rw [ev8_]; exact (show (aS (S_seti_readers v0 ir1 (R_set_lastRead (S_readers v0 ir1) (S_time v0)))) = (Sz_seti_readers (aS v0) ir1 (Rz_set_lastRead (Sz_readers (aS v0) ir1) (Sz_time (aS v0)))) from (zt_seti_S_readers rfl rfl rfl)))
    refine ⟨fun c3q => ?_, fun c3q => ?_⟩
    · have h := h.1 ((zt_le rfl rfl).mp c3q)
      obtain ⟨o1q, h⟩ := h
      refine z_S_readOn rfl (show (((zmin x2 ((L_end (S_log v8_)) - (R_place (S_readers v8_ ir1)))) : Int32)).toInt = ((zminZ x2.toInt ((Lz_end (Sz_log (aS v8_))) - (Rz_place (Sz_readers (aS v8_) ir1)))) : Int) from (zt_min rfl (show ((((L_end (S_log v8_)) - (R_place (S_readers v8_ ir1))) : Int32)).toInt = (((Lz_end (Sz_log (aS v8_))) - (Rz_place (Sz_readers (aS v8_) ir1))) : Int) from (zt_sub rfl rfl o1q)))) rfl (fun r12_ v16_ h => ?_) h
      exact h_Q _ _ h
    · have h := h.2 (fun k => c3q ((zt_le rfl rfl).mpr k))
      refine z_S_tellGap rfl rfl (fun r20_ v24_ h => ?_) h
      obtain ⟨o2q, h⟩ := h
      exact h_Q _ _ (Eq.mpr (congrArg (fun k => Qz k (aS v24_)) (show (((-r20_) : Int32)).toInt = ((-r20_.toInt) : Int) from (zt_neg rfl o2q))) h)

def Z_S_letGo (r1 : Option Nat) (v0 : SZ) (Q : (Int → SZ → Prop)) : Prop := ((r1 = none → (Z_S_readerCount v0 (fun r1_ => (Q r1_ v0)))) ∧ (∀ ir1, r1 = some ir1 → (Z_R_depart (Sz_readers v0 ir1) (fun v9_ => (∀ v14_, v14_ = (Sz_seti_readers v0 ir1 v9_) → ((Z_S_readerCount v14_ (fun r17_ => (Q r17_ v14_)))))))))
set_option maxRecDepth 100000 in
theorem z_S_letGo {v0 : ST} {v0z : SZ} {r1 r1z : Option Nat} {Q : Int32 → ST → Prop} {Qz : (Int → SZ → Prop)} (e_r1 : r1 = r1z) (e_v0 : (aS v0) = v0z) (h_Q : ∀ (a0 : Int32) (a1 : ST), Qz a0.toInt (aS a1) → Q a0 a1) (h : Z_S_letGo r1z v0z Qz) : P_S_letGo r1 v0 Q := by
  subst e_r1
  subst e_v0
  unfold Z_S_letGo at h
  unfold P_S_letGo
  refine ⟨fun c => ?_, fun ir1 c => ?_⟩
  · have h := h.1 c
    refine z_S_readerCount rfl (fun r1_ h => ?_) h
    exact h_Q _ _ h
  · have h := h.2 ir1 c
    refine z_R_depart rfl (fun v9_ h => ?_) h
    intro v14_ ev14_
    have h := h (aS v14_) (by rw [ev14_]; exact (show (aS (S_seti_readers v0 ir1 v9_)) = (Sz_seti_readers (aS v0) ir1 (aR v9_)) from (zt_seti_S_readers rfl rfl rfl)))
    refine z_S_readerCount rfl (fun r17_ h => ?_) h
    exact h_Q _ _ h

def Z_S_changeHold (r1 : Option Nat) (x2 : Int) (v0 : SZ) (Q : (Int → SZ → Prop)) : Prop := ((r1 = none → (Q 0 v0)) ∧ (∀ ir1, r1 = some ir1 → (Z_T_asNumber (Rz_held (Sz_readers v0 ir1)) (fun r1_ => (x2 = 0 ∨ x2 = 1) ∧ ((∀ v13_, v13_ = (Sz_seti_readers v0 ir1 (Rz_set_held (Sz_readers v0 ir1) x2)) → ((∀ v23_, v23_ = (Sz_seti_readers v13_ ir1 (Rz_set_lostBy (Sz_readers v13_ ir1) 0)) → ((Q r1_ v23_))))))))))
set_option maxRecDepth 100000 in
theorem z_S_changeHold {x2 : Int32} {x2z : Int} {v0 : ST} {v0z : SZ} {r1 r1z : Option Nat} {Q : Int32 → ST → Prop} {Qz : (Int → SZ → Prop)} (e_r1 : r1 = r1z) (e_x2 : x2.toInt = x2z) (e_v0 : (aS v0) = v0z) (h_Q : ∀ (a0 : Int32) (a1 : ST), Qz a0.toInt (aS a1) → Q a0 a1) (h : Z_S_changeHold r1z x2z v0z Qz) : P_S_changeHold r1 x2 v0 Q := by
  subst e_r1
  subst e_x2
  subst e_v0
  unfold Z_S_changeHold at h
  unfold P_S_changeHold
  refine ⟨fun c => ?_, fun ir1 c => ?_⟩
  · have h := h.1 c
    exact h_Q _ _ h
  · have h := h.2 ir1 c
    refine z_T_asNumber rfl (fun r1_ h => ?_) h
    obtain ⟨i1q, h⟩ := h
    refine ⟨zt_zb rfl i1q, ?_⟩
    intro v13_ ev13_
    have h := h (aS v13_) (by rw [ev13_]; exact (show (aS (S_seti_readers v0 ir1 (R_set_held (S_readers v0 ir1) x2))) = (Sz_seti_readers (aS v0) ir1 (Rz_set_held (Sz_readers (aS v0) ir1) x2.toInt)) from (zt_seti_S_readers rfl rfl rfl)))
    intro v23_ ev23_
    have h := h (aS v23_) (by rw [ev23_]; exact (show (aS (S_seti_readers v13_ ir1 (R_set_lostBy (S_readers v13_ ir1) 0))) = (Sz_seti_readers (aS v13_) ir1 (Rz_set_lostBy (Sz_readers (aS v13_) ir1) 0)) from (zt_seti_S_readers rfl rfl rfl)))
    exact h_Q _ _ h

def Z_S_change (x1 : Int) (x2 : Int) (v0 : SZ) (Q : (Int → SZ → Prop)) : Prop := (Z_T_at 6 x1 (Sz_settings v0) (fun r1_ => (Z_T_put 6 x1 x2 (Sz_settings v0) (fun v9_ => (∀ v14_, v14_ = (Sz_set_settings v0 v9_) → ((Q r1_ v14_)))))))
set_option maxRecDepth 100000 in
theorem z_S_change {x1 : Int32} {x1z : Int} {x2 : Int32} {x2z : Int} {v0 : ST} {v0z : SZ}  {Q : Int32 → ST → Prop} {Qz : (Int → SZ → Prop)} (e_x1 : x1.toInt = x1z) (e_x2 : x2.toInt = x2z) (e_v0 : (aS v0) = v0z) (h_Q : ∀ (a0 : Int32) (a1 : ST), Qz a0.toInt (aS a1) → Q a0 a1) (h : Z_S_change x1z x2z v0z Qz) : P_S_change x1 x2 v0 Q := by
  subst e_x1
  subst e_x2
  subst e_v0
  unfold Z_S_change at h
  unfold P_S_change
  refine z_T_at rfl rfl rfl (fun r1_ h => ?_) h
  refine z_T_put rfl rfl rfl rfl (fun v9_ h => ?_) h
  intro v14_ ev14_
  have h := h (aS v14_) (by rw [ev14_]; exact rfl)
  exact h_Q _ _ h

def ZJ_S_checkHold_67 (r1 : Option Nat) (e1_67 : Nat) (y3 : Int) (v0 : SZ) (Q : (SZ → Prop)) : Prop := ((y3 ≤ 0 → (Q v0)) ∧ (¬ y3 ≤ 0 → zin ((Sz_time v0) - (Rz_lastRead (Sz_readers v0 e1_67))) ∧ ((((Sz_time v0) - (Rz_lastRead (Sz_readers v0 e1_67))) < y3 → (Q v0)) ∧ (¬ ((Sz_time v0) - (Rz_lastRead (Sz_readers v0 e1_67))) < y3 → (∀ v20_, v20_ = (Sz_seti_readers v0 e1_67 (Rz_set_lostBy (Sz_readers v0 e1_67) 2)) → (zin ((Sz_lostBySleep v20_) + 1) ∧ (∀ v28_, v28_ = (Sz_set_lostBySleep v20_ ((Sz_lostBySleep v20_) + 1)) → ((∀ v38_, v38_ = (Sz_seti_readers v28_ e1_67 (Rz_set_held (Sz_readers v28_ e1_67) 0)) → ((Q v38_)))))))))))
set_option maxRecDepth 100000 in
theorem zJ_S_checkHold_67 {y3 : Int32} {y3z : Int} {v0 : ST} {v0z : SZ} {r1 r1z : Option Nat} {e1_67 e1_67z : Nat} {Q : ST → Prop} {Qz : (SZ → Prop)} (e_r1 : r1 = r1z) (e_e1_67 : e1_67 = e1_67z) (e_y3 : y3.toInt = y3z) (e_v0 : (aS v0) = v0z) (h_Q : ∀ (a0 : ST), Qz (aS a0) → Q a0) (h : ZJ_S_checkHold_67 r1z e1_67z y3z v0z Qz) : PJ_S_checkHold_67 r1 e1_67 y3 v0 Q := by
  subst e_r1
  subst e_e1_67
  subst e_y3
  subst e_v0
  unfold ZJ_S_checkHold_67 at h
  unfold PJ_S_checkHold_67
  refine ⟨fun c4q => ?_, fun c4q => ?_⟩
  · have h := h.1 ((zt_le rfl rfl).mp c4q)
    exact h_Q _ h
  · have h := h.2 (fun k => c4q ((zt_le rfl rfl).mpr k))
    obtain ⟨o1q, h⟩ := h
    refine ⟨fun c3q => ?_, fun c3q => ?_⟩
    · have h := h.1 ((zt_lt (show ((((S_time v0) - (R_lastRead (S_readers v0 e1_67))) : Int32)).toInt = (((Sz_time (aS v0)) - (Rz_lastRead (Sz_readers (aS v0) e1_67))) : Int) from (zt_sub rfl rfl o1q)) rfl).mp c3q)
      exact h_Q _ h
    · have h := h.2 (fun k => c3q ((zt_lt (show ((((S_time v0) - (R_lastRead (S_readers v0 e1_67))) : Int32)).toInt = (((Sz_time (aS v0)) - (Rz_lastRead (Sz_readers (aS v0) e1_67))) : Int) from (zt_sub rfl rfl o1q)) rfl).mpr k))
      intro v20_ ev20_
      have h := h (aS v20_) (by rw [ev20_]; exact (show (aS (S_seti_readers v0 e1_67 (R_set_lostBy (S_readers v0 e1_67) 2))) = (Sz_seti_readers (aS v0) e1_67 (Rz_set_lostBy (Sz_readers (aS v0) e1_67) 2)) from (zt_seti_S_readers rfl rfl rfl)))
      obtain ⟨o2q, h⟩ := h
      intro v28_ ev28_
      have h := h (aS v28_) (by rw [ev28_]; exact (show (aS (S_set_lostBySleep v20_ ((S_lostBySleep v20_) + 1))) = (Sz_set_lostBySleep (aS v20_) ((Sz_lostBySleep (aS v20_)) + 1)) from (congrArg (fun k => Sz_set_lostBySleep (aS v20_) k) (show ((((S_lostBySleep v20_) + 1) : Int32)).toInt = (((Sz_lostBySleep (aS v20_)) + 1) : Int) from (zt_add rfl rfl o2q)))))
      intro v38_ ev38_
      have h := h (aS v38_) (by rw [ev38_]; exact (show (aS (S_seti_readers v28_ e1_67 (R_set_held (S_readers v28_ e1_67) 0))) = (Sz_seti_readers (aS v28_) e1_67 (Rz_set_held (Sz_readers (aS v28_) e1_67) 0)) from (zt_seti_S_readers rfl rfl rfl)))
      exact h_Q _ h
def Z_S_checkHold (r1 : Option Nat) (v0 : SZ) (Q : (SZ → Prop)) : Prop := ((r1 = none → (Q v0)) ∧ (∀ ir1, r1 = some ir1 → ((¬ (Rz_held (Sz_readers v0 ir1)) = 0 → (Z_T_at 6 4 (Sz_settings v0) (fun r2_ => (Z_T_at 6 5 (Sz_settings v0) (fun r6_ => ((r2_ ≤ 0 → (ZJ_S_checkHold_67 r1 ir1 r6_ v0 Q)) ∧ (¬ r2_ ≤ 0 → (Z_L_lengthFrom (Rz_place (Sz_readers v0 ir1)) (Sz_log v0) (fun r41_ => ((r41_ ≤ r2_ → (ZJ_S_checkHold_67 r1 ir1 r6_ v0 Q)) ∧ (¬ r41_ ≤ r2_ → (∀ v53_, v53_ = (Sz_seti_readers v0 ir1 (Rz_set_lostBy (Sz_readers v0 ir1) 1)) → (zin ((Sz_lostByLength v53_) + 1) ∧ (∀ v61_, v61_ = (Sz_set_lostByLength v53_ ((Sz_lostByLength v53_) + 1)) → ((∀ v71_, v71_ = (Sz_seti_readers v61_ ir1 (Rz_set_held (Sz_readers v61_ ir1) 0)) → ((Q v71_)))))))))))))))))) ∧ ((Rz_held (Sz_readers v0 ir1)) = 0 → (Q v0)))))
set_option maxRecDepth 100000 in
theorem z_S_checkHold {v0 : ST} {v0z : SZ} {r1 r1z : Option Nat} {Q : ST → Prop} {Qz : (SZ → Prop)} (e_r1 : r1 = r1z) (e_v0 : (aS v0) = v0z) (h_Q : ∀ (a0 : ST), Qz (aS a0) → Q a0) (h : Z_S_checkHold r1z v0z Qz) : P_S_checkHold r1 v0 Q := by
  subst e_r1
  subst e_v0
  unfold Z_S_checkHold at h
  unfold P_S_checkHold
  refine ⟨fun c => ?_, fun ir1 c => ?_⟩
  · have h := h.1 c
    exact h_Q _ h
  · have h := h.2 ir1 c
    refine ⟨fun c4q => ?_, fun c4q => ?_⟩
    · have h := h.1 (fun k => c4q ((zt_eq rfl rfl).mpr k))
      refine z_T_at rfl rfl rfl (fun r2_ h => ?_) h
      refine z_T_at rfl rfl rfl (fun r6_ h => ?_) h
      refine ⟨fun c3q => ?_, fun c3q => ?_⟩
      · have h := h.1 ((zt_le rfl rfl).mp c3q)
        refine zJ_S_checkHold_67 rfl rfl rfl rfl h_Q h
      · have h := h.2 (fun k => c3q ((zt_le rfl rfl).mpr k))
        refine z_L_lengthFrom rfl rfl (fun r41_ h => ?_) h
        refine ⟨fun c2q => ?_, fun c2q => ?_⟩
        · have h := h.1 ((zt_le rfl rfl).mp c2q)
          refine zJ_S_checkHold_67 rfl rfl rfl rfl h_Q h
        · have h := h.2 (fun k => c2q ((zt_le rfl rfl).mpr k))
          intro v53_ ev53_
          have h := h (aS v53_) (by rw [ev53_]; exact (show (aS (S_seti_readers v0 ir1 (R_set_lostBy (S_readers v0 ir1) 1))) = (Sz_seti_readers (aS v0) ir1 (Rz_set_lostBy (Sz_readers (aS v0) ir1) 1)) from (zt_seti_S_readers rfl rfl rfl)))
          obtain ⟨o1q, h⟩ := h
          intro v61_ ev61_
          have h := h (aS v61_) (by rw [ev61_]; exact (show (aS (S_set_lostByLength v53_ ((S_lostByLength v53_) + 1))) = (Sz_set_lostByLength (aS v53_) ((Sz_lostByLength (aS v53_)) + 1)) from (congrArg (fun k => Sz_set_lostByLength (aS v53_) k) (show ((((S_lostByLength v53_) + 1) : Int32)).toInt = (((Sz_lostByLength (aS v53_)) + 1) : Int) from (zt_add rfl rfl o1q)))))
          intro v71_ ev71_
          have h := h (aS v71_) (by rw [ev71_]; exact (show (aS (S_seti_readers v61_ ir1 (R_set_held (S_readers v61_ ir1) 0))) = (Sz_seti_readers (aS v61_) ir1 (Rz_set_held (Sz_readers (aS v61_) ir1) 0)) from (zt_seti_S_readers rfl rfl rfl)))
          exact h_Q _ h
    · have h := h.2 ((zt_eq rfl rfl).mp c4q)
      exact h_Q _ h

def ZL_S_passTime_55 : Nat → Int → Int → Int → Int → Int → SZ → (Int → Int → Int → SZ → Prop) → (Int → SZ → Prop) → Prop
  | 0, _, _, _, _, _, _, _, _ => False
  | n + 1, x1, y1, y2, y3, y4, v0, K10, Q => ((200 ≤ y4 → zin (y3 + 1) ∧ (K10 y1 y2 (y3 + 1) v0)) ∧ (¬ 200 ≤ y4 → (Z_S_firstStays v0 (fun r12_ => ((¬ r12_ = 0 → zin (y3 + 1) ∧ (K10 y1 y2 (y3 + 1) v0)) ∧ (r12_ = 0 → (Z_L_dropFirst (Sz_log v0) (fun v21_ => (∀ v26_, v26_ = (Sz_set_log v0 v21_) → (zin (y4 + 1) ∧ (ZL_S_passTime_55 n x1 y1 y2 y3 (y4 + 1) v26_ K10 Q)))))))))))
set_option maxRecDepth 100000 in
theorem zL_S_passTime_55 (n : Nat) : ∀ {x1 : Int32} {x1z : Int} {y1 : Int32} {y1z : Int} {y2 : Int32} {y2z : Int} {y3 : Int32} {y3z : Int} {y4 : Int32} {y4z : Int} {v0 : ST} {v0z : SZ}  {K10 : Int32 → Int32 → Int32 → ST → Prop} {K10z : (Int → Int → Int → SZ → Prop)} {Q : Int32 → ST → Prop} {Qz : (Int → SZ → Prop)} (e_x1 : x1.toInt = x1z) (e_y1 : y1.toInt = y1z) (e_y2 : y2.toInt = y2z) (e_y3 : y3.toInt = y3z) (e_y4 : y4.toInt = y4z) (e_v0 : (aS v0) = v0z) (h_K10 : ∀ (a0 : Int32) (a1 : Int32) (a2 : Int32) (a3 : ST), K10z a0.toInt a1.toInt a2.toInt (aS a3) → K10 a0 a1 a2 a3) (h_Q : ∀ (a0 : Int32) (a1 : ST), Qz a0.toInt (aS a1) → Q a0 a1) (h : ZL_S_passTime_55 n x1z y1z y2z y3z y4z v0z K10z Qz), PL_S_passTime_55 n x1 y1 y2 y3 y4 v0 K10 Q := by
  induction n with
  | zero =>
    intro x1 x1z y1 y1z y2 y2z y3 y3z y4 y4z v0 v0z K10 K10z Q Qz e_x1 e_y1 e_y2 e_y3 e_y4 e_v0 h_K10 h_Q h
    exact (h : False).elim
  | succ n ih =>
    intro x1 x1z y1 y1z y2 y2z y3 y3z y4 y4z v0 v0z K10 K10z Q Qz e_x1 e_y1 e_y2 e_y3 e_y4 e_v0 h_K10 h_Q h
    subst e_x1
    subst e_y1
    subst e_y2
    subst e_y3
    subst e_y4
    subst e_v0
    rw [ZL_S_passTime_55] at h
    rw [PL_S_passTime_55]
    refine ⟨fun c5q => ?_, fun c5q => ?_⟩
    · have h := h.1 ((zt_le rfl rfl).mp c5q)
      obtain ⟨o1q, h⟩ := h
      exact h_K10 _ _ _ _ (Eq.mpr (congrArg (fun k => K10z y1.toInt y2.toInt k (aS v0)) (show (((y3 + 1) : Int32)).toInt = ((y3.toInt + 1) : Int) from (zt_add rfl rfl o1q))) h)
    · have h := h.2 (fun k => c5q ((zt_le rfl rfl).mpr k))
      refine z_S_firstStays rfl (fun r12_ h => ?_) h
      refine ⟨fun c4q => ?_, fun c4q => ?_⟩
      · have h := h.1 (fun k => c4q ((zt_eq rfl rfl).mpr k))
        obtain ⟨o2q, h⟩ := h
        exact h_K10 _ _ _ _ (Eq.mpr (congrArg (fun k => K10z y1.toInt y2.toInt k (aS v0)) (show (((y3 + 1) : Int32)).toInt = ((y3.toInt + 1) : Int) from (zt_add rfl rfl o2q))) h)
      · have h := h.2 ((zt_eq rfl rfl).mp c4q)
        refine z_L_dropFirst rfl (fun v21_ h => ?_) h
        intro v26_ ev26_
        have h := h (aS v26_) (by rw [ev26_]; exact rfl)
        obtain ⟨o3q, h⟩ := h
        refine ih rfl rfl rfl rfl (show (((y4 + 1) : Int32)).toInt = ((y4.toInt + 1) : Int) from (zt_add rfl rfl o3q)) rfl h_K10 h_Q h
def ZL_S_passTime_28 : Nat → Int → Int → Int → Int → Int → SZ → (Int → Int → Int → SZ → Prop) → (Int → SZ → Prop) → Prop
  | 0, _, _, _, _, _, _, _, _ => False
  | n + 1, x1, y1, y2, y3, y4, v0, K10, Q => ((8 ≤ y4 → (∃ n29_, (ZL_S_passTime_55 n29_ x1 y1 y2 y3 0 v0 (fun a0 a1 a2 w0 => (K10 a0 a1 a2 w0)) Q))) ∧ (¬ 8 ≤ y4 → ((0 : Int) ≤ y4 ∧ (y4 : Int) < 8) ∧ ((Z_S_checkHold (some (Int.toNat y4)) v0 (fun v35_ => zin (y4 + 1) ∧ (ZL_S_passTime_28 n x1 y1 y2 y3 (y4 + 1) v35_ K10 Q))))))
set_option maxRecDepth 100000 in
theorem zL_S_passTime_28 (n : Nat) : ∀ {x1 : Int32} {x1z : Int} {y1 : Int32} {y1z : Int} {y2 : Int32} {y2z : Int} {y3 : Int32} {y3z : Int} {y4 : Int32} {y4z : Int} {v0 : ST} {v0z : SZ}  {K10 : Int32 → Int32 → Int32 → ST → Prop} {K10z : (Int → Int → Int → SZ → Prop)} {Q : Int32 → ST → Prop} {Qz : (Int → SZ → Prop)} (e_x1 : x1.toInt = x1z) (e_y1 : y1.toInt = y1z) (e_y2 : y2.toInt = y2z) (e_y3 : y3.toInt = y3z) (e_y4 : y4.toInt = y4z) (e_v0 : (aS v0) = v0z) (h_K10 : ∀ (a0 : Int32) (a1 : Int32) (a2 : Int32) (a3 : ST), K10z a0.toInt a1.toInt a2.toInt (aS a3) → K10 a0 a1 a2 a3) (h_Q : ∀ (a0 : Int32) (a1 : ST), Qz a0.toInt (aS a1) → Q a0 a1) (h : ZL_S_passTime_28 n x1z y1z y2z y3z y4z v0z K10z Qz), PL_S_passTime_28 n x1 y1 y2 y3 y4 v0 K10 Q := by
  induction n with
  | zero =>
    intro x1 x1z y1 y1z y2 y2z y3 y3z y4 y4z v0 v0z K10 K10z Q Qz e_x1 e_y1 e_y2 e_y3 e_y4 e_v0 h_K10 h_Q h
    exact (h : False).elim
  | succ n ih =>
    intro x1 x1z y1 y1z y2 y2z y3 y3z y4 y4z v0 v0z K10 K10z Q Qz e_x1 e_y1 e_y2 e_y3 e_y4 e_v0 h_K10 h_Q h
    subst e_x1
    subst e_y1
    subst e_y2
    subst e_y3
    subst e_y4
    subst e_v0
    rw [ZL_S_passTime_28] at h
    rw [PL_S_passTime_28]
    refine ⟨fun c3q => ?_, fun c3q => ?_⟩
    · have h := h.1 ((zt_le rfl rfl).mp c3q)
      obtain ⟨n29_, h⟩ := h
      refine ⟨n29_, ?_⟩
      refine zL_S_passTime_55 n29_ rfl rfl rfl rfl rfl rfl (fun a0 a1 a2 w0 h => ?_) h_Q h
      exact h_K10 _ _ _ _ h
    · have h := h.2 (fun k => c3q ((zt_le rfl rfl).mpr k))
      obtain ⟨i1q, h⟩ := h
      refine ⟨zt_in rfl i1q, ?_⟩
      refine z_S_checkHold rfl rfl (fun v35_ h => ?_) h
      obtain ⟨o2q, h⟩ := h
      refine ih rfl rfl rfl rfl (show (((y4 + 1) : Int32)).toInt = ((y4.toInt + 1) : Int) from (zt_add rfl rfl o2q)) rfl h_K10 h_Q h
def ZL_S_passTime_10 : Nat → Int → Int → Int → Int → SZ → (Int → SZ → Prop) → Prop
  | 0, _, _, _, _, _, _ => False
  | n + 1, x1, y1, y2, y3, v0, Q => ((y1 ≤ y3 → zin ((Lz_dropped (Sz_log v0)) - y2) ∧ (Q ((Lz_dropped (Sz_log v0)) - y2) v0)) ∧ (¬ y1 ≤ y3 → zin ((Sz_time v0) + 1) ∧ (∀ v7_, v7_ = (Sz_set_time v0 ((Sz_time v0) + 1)) → ((∃ n39_, (ZL_S_passTime_28 n39_ x1 y1 y2 y3 0 v7_ (fun a0 a1 a2 w0 => (ZL_S_passTime_10 n x1 a0 a1 a2 w0 Q)) Q))))))
set_option maxRecDepth 100000 in
theorem zL_S_passTime_10 (n : Nat) : ∀ {x1 : Int32} {x1z : Int} {y1 : Int32} {y1z : Int} {y2 : Int32} {y2z : Int} {y3 : Int32} {y3z : Int} {v0 : ST} {v0z : SZ}  {Q : Int32 → ST → Prop} {Qz : (Int → SZ → Prop)} (e_x1 : x1.toInt = x1z) (e_y1 : y1.toInt = y1z) (e_y2 : y2.toInt = y2z) (e_y3 : y3.toInt = y3z) (e_v0 : (aS v0) = v0z) (h_Q : ∀ (a0 : Int32) (a1 : ST), Qz a0.toInt (aS a1) → Q a0 a1) (h : ZL_S_passTime_10 n x1z y1z y2z y3z v0z Qz), PL_S_passTime_10 n x1 y1 y2 y3 v0 Q := by
  induction n with
  | zero =>
    intro x1 x1z y1 y1z y2 y2z y3 y3z v0 v0z Q Qz e_x1 e_y1 e_y2 e_y3 e_v0 h_Q h
    exact (h : False).elim
  | succ n ih =>
    intro x1 x1z y1 y1z y2 y2z y3 y3z v0 v0z Q Qz e_x1 e_y1 e_y2 e_y3 e_v0 h_Q h
    subst e_x1
    subst e_y1
    subst e_y2
    subst e_y3
    subst e_v0
    rw [ZL_S_passTime_10] at h
    rw [PL_S_passTime_10]
    refine ⟨fun c3q => ?_, fun c3q => ?_⟩
    · have h := h.1 ((zt_le rfl rfl).mp c3q)
      obtain ⟨o1q, h⟩ := h
      exact h_Q _ _ (Eq.mpr (congrArg (fun k => Qz k (aS v0)) (show ((((L_dropped (S_log v0)) - y2) : Int32)).toInt = (((Lz_dropped (Sz_log (aS v0))) - y2.toInt) : Int) from (zt_sub rfl rfl o1q))) h)
    · have h := h.2 (fun k => c3q ((zt_le rfl rfl).mpr k))
      obtain ⟨o2q, h⟩ := h
      intro v7_ ev7_
      have h := h (aS v7_) (by rw [ev7_]; exact (show (aS (S_set_time v0 ((S_time v0) + 1))) = (Sz_set_time (aS v0) ((Sz_time (aS v0)) + 1)) from (congrArg (fun k => Sz_set_time (aS v0) k) (show ((((S_time v0) + 1) : Int32)).toInt = (((Sz_time (aS v0)) + 1) : Int) from (zt_add rfl rfl o2q)))))
      obtain ⟨n39_, h⟩ := h
      refine ⟨n39_, ?_⟩
      refine zL_S_passTime_28 n39_ rfl rfl rfl rfl rfl rfl (fun a0 a1 a2 w0 h => ?_) h_Q h
      refine ih rfl rfl rfl rfl rfl h_Q h
def Z_S_passTime (x1 : Int) (v0 : SZ) (Q : (Int → SZ → Prop)) : Prop := (∃ n40_, (ZL_S_passTime_10 n40_ x1 x1 (Lz_dropped (Sz_log v0)) 0 v0 Q))
set_option maxRecDepth 100000 in
theorem z_S_passTime {x1 : Int32} {x1z : Int} {v0 : ST} {v0z : SZ}  {Q : Int32 → ST → Prop} {Qz : (Int → SZ → Prop)} (e_x1 : x1.toInt = x1z) (e_v0 : (aS v0) = v0z) (h_Q : ∀ (a0 : Int32) (a1 : ST), Qz a0.toInt (aS a1) → Q a0 a1) (h : Z_S_passTime x1z v0z Qz) : P_S_passTime x1 v0 Q := by
  subst e_x1
  subst e_v0
  unfold Z_S_passTime at h
  unfold P_S_passTime
  obtain ⟨n40_, h⟩ := h
  refine ⟨n40_, ?_⟩
  refine zL_S_passTime_10 n40_ rfl rfl rfl rfl rfl h_Q h

def Z_S_perform (x1 : Int) (x2 : Int) (x3 : Int) (x4 : Int) (v0 : SZ) (Q : (Int → SZ → Prop)) : Prop := ((x1 = 0 → (Z_T_at 6 0 (Sz_settings v0) (fun r2_ => (Z_T_at 6 1 (Sz_settings v0) (fun r6_ => (Z_L_makeRoomFor x4 r2_ r6_ (Sz_log v0) (fun v14_ => (∀ v19_, v19_ = (Sz_set_log v0 v14_) → ((Z_L_add x2 x3 x4 (Sz_time v19_) (Sz_log v19_) (fun r22_ v26_ => (∀ v31_, v31_ = (Sz_set_log v19_ v26_) → ((Q r22_ v31_)))))))))))))) ∧ (¬ x1 = 0 → ((x1 = 1 → (Z_S_named x2 v0 (fun r39_ => ((r39_ = none → ((¬ x4 = 1 → (Z_S_letIn none x3 0 v0 (fun r44_ v48_ => (Q r44_ v48_)))) ∧ (x4 = 1 → (Z_S_letIn none x3 1 v0 (fun r52_ v56_ => (Q r52_ v56_)))))) ∧ (∀ i41_, r39_ = some i41_ → ((¬ x4 = 1 → (Z_S_letIn (some i41_) x3 0 v0 (fun r61_ v65_ => (Q r61_ v65_)))) ∧ (x4 = 1 → (Z_S_letIn (some i41_) x3 1 v0 (fun r69_ v73_ => (Q r69_ v73_)))))))))) ∧ (¬ x1 = 1 → ((x1 = 2 → (Z_S_reader x2 v0 (fun r82_ => ((r82_ = none → (Z_S_letRead none x3 v0 (fun r86_ v90_ => (Q r86_ v90_)))) ∧ (∀ i84_, r82_ = some i84_ → (Z_S_letRead (some i84_) x3 v0 (fun r94_ v98_ => (Q r94_ v98_)))))))) ∧ (¬ x1 = 2 → ((x1 = 3 → (Z_S_reader x2 v0 (fun r107_ => ((r107_ = none → (Z_S_letGo none v0 (fun r111_ v115_ => (Q r111_ v115_)))) ∧ (∀ i109_, r107_ = some i109_ → (Z_S_letGo (some i109_) v0 (fun r119_ v123_ => (Q r119_ v123_)))))))) ∧ (¬ x1 = 3 → ((x1 = 4 → (Z_S_reader x2 v0 (fun r132_ => ((r132_ = none → ((¬ x3 = 1 → (Z_S_changeHold none 0 v0 (fun r137_ v141_ => (Q r137_ v141_)))) ∧ (x3 = 1 → (Z_S_changeHold none 1 v0 (fun r145_ v149_ => (Q r145_ v149_)))))) ∧ (∀ i134_, r132_ = some i134_ → ((¬ x3 = 1 → (Z_S_changeHold (some i134_) 0 v0 (fun r154_ v158_ => (Q r154_ v158_)))) ∧ (x3 = 1 → (Z_S_changeHold (some i134_) 1 v0 (fun r162_ v166_ => (Q r162_ v166_)))))))))) ∧ (¬ x1 = 4 → ((x1 = 5 → (Z_S_change x2 x3 v0 (fun r171_ v175_ => (Q r171_ v175_)))) ∧ (¬ x1 = 5 → (Z_S_passTime x2 v0 (fun r179_ v183_ => (Q r179_ v183_)))))))))))))))
set_option maxRecDepth 100000 in
theorem z_S_perform {x1 : Int32} {x1z : Int} {x2 : Int32} {x2z : Int} {x3 : Int32} {x3z : Int} {x4 : Int32} {x4z : Int} {v0 : ST} {v0z : SZ}  {Q : Int32 → ST → Prop} {Qz : (Int → SZ → Prop)} (e_x1 : x1.toInt = x1z) (e_x2 : x2.toInt = x2z) (e_x3 : x3.toInt = x3z) (e_x4 : x4.toInt = x4z) (e_v0 : (aS v0) = v0z) (h_Q : ∀ (a0 : Int32) (a1 : ST), Qz a0.toInt (aS a1) → Q a0 a1) (h : Z_S_perform x1z x2z x3z x4z v0z Qz) : P_S_perform x1 x2 x3 x4 v0 Q := by
  subst e_x1
  subst e_x2
  subst e_x3
  subst e_x4
  subst e_v0
  unfold Z_S_perform at h
  unfold P_S_perform
  refine ⟨fun c10q => ?_, fun c10q => ?_⟩
  · have h := h.1 ((zt_eq rfl rfl).mp c10q)
    refine z_T_at rfl rfl rfl (fun r2_ h => ?_) h
    refine z_T_at rfl rfl rfl (fun r6_ h => ?_) h
    refine z_L_makeRoomFor rfl rfl rfl rfl (fun v14_ h => ?_) h
    intro v19_ ev19_
    have h := h (aS v19_) (by rw [ev19_]; exact rfl)
    refine z_L_add rfl rfl rfl rfl rfl (fun r22_ v26_ h => ?_) h
    intro v31_ ev31_
    have h := h (aS v31_) (by rw [ev31_]; exact rfl)
    exact h_Q _ _ h
  · have h := h.2 (fun k => c10q ((zt_eq rfl rfl).mpr k))
    refine ⟨fun c9q => ?_, fun c9q => ?_⟩
    · have h := h.1 ((zt_eq rfl rfl).mp c9q)
      refine z_S_named rfl rfl (fun r39_ h => ?_) h
      refine ⟨fun c => ?_, fun i41_ c => ?_⟩
      · have h := h.1 c
        refine ⟨fun c1q => ?_, fun c1q => ?_⟩
        · have h := h.1 (fun k => c1q ((zt_eq rfl rfl).mpr k))
          refine z_S_letIn rfl rfl rfl rfl (fun r44_ v48_ h => ?_) h
          exact h_Q _ _ h
        · have h := h.2 ((zt_eq rfl rfl).mp c1q)
          refine z_S_letIn rfl rfl rfl rfl (fun r52_ v56_ h => ?_) h
          exact h_Q _ _ h
      · have h := h.2 i41_ c
        refine ⟨fun c2q => ?_, fun c2q => ?_⟩
        · have h := h.1 (fun k => c2q ((zt_eq rfl rfl).mpr k))
          refine z_S_letIn rfl rfl rfl rfl (fun r61_ v65_ h => ?_) h
          exact h_Q _ _ h
        · have h := h.2 ((zt_eq rfl rfl).mp c2q)
          refine z_S_letIn rfl rfl rfl rfl (fun r69_ v73_ h => ?_) h
          exact h_Q _ _ h
    · have h := h.2 (fun k => c9q ((zt_eq rfl rfl).mpr k))
      refine ⟨fun c8q => ?_, fun c8q => ?_⟩
      · have h := h.1 ((zt_eq rfl rfl).mp c8q)
        refine z_S_reader rfl rfl (fun r82_ h => ?_) h
        refine ⟨fun c => ?_, fun i84_ c => ?_⟩
        · have h := h.1 c
          refine z_S_letRead rfl rfl rfl (fun r86_ v90_ h => ?_) h
          exact h_Q _ _ h
        · have h := h.2 i84_ c
          refine z_S_letRead rfl rfl rfl (fun r94_ v98_ h => ?_) h
          exact h_Q _ _ h
      · have h := h.2 (fun k => c8q ((zt_eq rfl rfl).mpr k))
        refine ⟨fun c7q => ?_, fun c7q => ?_⟩
        · have h := h.1 ((zt_eq rfl rfl).mp c7q)
          refine z_S_reader rfl rfl (fun r107_ h => ?_) h
          refine ⟨fun c => ?_, fun i109_ c => ?_⟩
          · have h := h.1 c
            refine z_S_letGo rfl rfl (fun r111_ v115_ h => ?_) h
            exact h_Q _ _ h
          · have h := h.2 i109_ c
            refine z_S_letGo rfl rfl (fun r119_ v123_ h => ?_) h
            exact h_Q _ _ h
        · have h := h.2 (fun k => c7q ((zt_eq rfl rfl).mpr k))
          refine ⟨fun c6q => ?_, fun c6q => ?_⟩
          · have h := h.1 ((zt_eq rfl rfl).mp c6q)
            refine z_S_reader rfl rfl (fun r132_ h => ?_) h
            refine ⟨fun c => ?_, fun i134_ c => ?_⟩
            · have h := h.1 c
              refine ⟨fun c3q => ?_, fun c3q => ?_⟩
              · have h := h.1 (fun k => c3q ((zt_eq rfl rfl).mpr k))
                refine z_S_changeHold rfl rfl rfl (fun r137_ v141_ h => ?_) h
                exact h_Q _ _ h
              · have h := h.2 ((zt_eq rfl rfl).mp c3q)
                refine z_S_changeHold rfl rfl rfl (fun r145_ v149_ h => ?_) h
                exact h_Q _ _ h
            · have h := h.2 i134_ c
              refine ⟨fun c4q => ?_, fun c4q => ?_⟩
              · have h := h.1 (fun k => c4q ((zt_eq rfl rfl).mpr k))
                refine z_S_changeHold rfl rfl rfl (fun r154_ v158_ h => ?_) h
                exact h_Q _ _ h
              · have h := h.2 ((zt_eq rfl rfl).mp c4q)
                refine z_S_changeHold rfl rfl rfl (fun r162_ v166_ h => ?_) h
                exact h_Q _ _ h
          · have h := h.2 (fun k => c6q ((zt_eq rfl rfl).mpr k))
            refine ⟨fun c5q => ?_, fun c5q => ?_⟩
            · have h := h.1 ((zt_eq rfl rfl).mp c5q)
              refine z_S_change rfl rfl rfl (fun r171_ v175_ h => ?_) h
              exact h_Q _ _ h
            · have h := h.2 (fun k => c5q ((zt_eq rfl rfl).mpr k))
              refine z_S_passTime rfl rfl (fun r179_ v183_ h => ?_) h
              exact h_Q _ _ h

def Z_S_attempt (x1 : Int) (x2 : Int) (x3 : Int) (x4 : Int) (v0 : SZ) (Q : (Int → SZ → Prop)) : Prop := (Z_S_faultOf x1 x2 x3 x4 v0 (fun r1_ => ((r1_ = 0 → (Z_S_perform x1 x2 x3 x4 v0 (fun r6_ v10_ => (Q 1 v10_)))) ∧ (¬ r1_ = 0 → (Q 0 v0)))))
set_option maxRecDepth 100000 in
theorem z_S_attempt {x1 : Int32} {x1z : Int} {x2 : Int32} {x2z : Int} {x3 : Int32} {x3z : Int} {x4 : Int32} {x4z : Int} {v0 : ST} {v0z : SZ}  {Q : Int32 → ST → Prop} {Qz : (Int → SZ → Prop)} (e_x1 : x1.toInt = x1z) (e_x2 : x2.toInt = x2z) (e_x3 : x3.toInt = x3z) (e_x4 : x4.toInt = x4z) (e_v0 : (aS v0) = v0z) (h_Q : ∀ (a0 : Int32) (a1 : ST), Qz a0.toInt (aS a1) → Q a0 a1) (h : Z_S_attempt x1z x2z x3z x4z v0z Qz) : P_S_attempt x1 x2 x3 x4 v0 Q := by
  subst e_x1
  subst e_x2
  subst e_x3
  subst e_x4
  subst e_v0
  unfold Z_S_attempt at h
  unfold P_S_attempt
  refine z_S_faultOf rfl rfl rfl rfl rfl (fun r1_ h => ?_) h
  refine ⟨fun c1q => ?_, fun c1q => ?_⟩
  · have h := h.1 ((zt_eq rfl rfl).mp c1q)
    refine z_S_perform rfl rfl rfl rfl rfl (fun r6_ v10_ h => ?_) h
    exact h_Q _ _ h
  · have h := h.2 (fun k => c1q ((zt_eq rfl rfl).mpr k))
    exact h_Q _ _ h

def Z_S_getsFurther (x1 : Int) (x2 : Int) (v0 : SZ) (Q : (Int → SZ → Prop)) : Prop := (Z_S_faultOf 2 x1 x2 0 v0 (fun r1_ => ((¬ r1_ = 0 → (Q 0 v0)) ∧ (r1_ = 0 → (Z_S_perform 2 x1 x2 0 v0 (fun r6_ v10_ => ((r6_ = 0 → (Q 0 v10_)) ∧ (¬ r6_ = 0 → (Q 1 v10_)))))))))
set_option maxRecDepth 100000 in
theorem z_S_getsFurther {x1 : Int32} {x1z : Int} {x2 : Int32} {x2z : Int} {v0 : ST} {v0z : SZ}  {Q : Int32 → ST → Prop} {Qz : (Int → SZ → Prop)} (e_x1 : x1.toInt = x1z) (e_x2 : x2.toInt = x2z) (e_v0 : (aS v0) = v0z) (h_Q : ∀ (a0 : Int32) (a1 : ST), Qz a0.toInt (aS a1) → Q a0 a1) (h : Z_S_getsFurther x1z x2z v0z Qz) : P_S_getsFurther x1 x2 v0 Q := by
  subst e_x1
  subst e_x2
  subst e_v0
  unfold Z_S_getsFurther at h
  unfold P_S_getsFurther
  refine z_S_faultOf rfl rfl rfl rfl rfl (fun r1_ h => ?_) h
  refine ⟨fun c2q => ?_, fun c2q => ?_⟩
  · have h := h.1 (fun k => c2q ((zt_eq rfl rfl).mpr k))
    exact h_Q _ _ h
  · have h := h.2 ((zt_eq rfl rfl).mp c2q)
    refine z_S_perform rfl rfl rfl rfl rfl (fun r6_ v10_ h => ?_) h
    refine ⟨fun c1q => ?_, fun c1q => ?_⟩
    · have h := h.1 ((zt_eq rfl rfl).mp c1q)
      exact h_Q _ _ h
    · have h := h.2 (fun k => c1q ((zt_eq rfl rfl).mpr k))
      exact h_Q _ _ h

def Z_X_isFull (v0 : XZ) (Q : (Int → Prop)) : Prop := (((Xz_length v0) < 120 → (Q 0)) ∧ (¬ (Xz_length v0) < 120 → (Q 1)))
set_option maxRecDepth 100000 in
theorem z_X_isFull {v0 : XT} {v0z : XZ}  {Q : Int32 → Prop} {Qz : (Int → Prop)} (e_v0 : (aX v0) = v0z) (h_Q : ∀ (a0 : Int32), Qz a0.toInt → Q a0) (h : Z_X_isFull v0z Qz) : P_X_isFull v0 Q := by
  subst e_v0
  unfold Z_X_isFull at h
  unfold P_X_isFull
  refine ⟨fun c1q => ?_, fun c1q => ?_⟩
  · have h := h.1 ((zt_lt rfl rfl).mp c1q)
    exact h_Q _ h
  · have h := h.2 (fun k => c1q ((zt_lt rfl rfl).mpr k))
    exact h_Q _ h

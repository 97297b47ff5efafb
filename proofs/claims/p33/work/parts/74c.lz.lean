def ZJ_LAW_errors_802 (y1 : Int) (u0 : Int) (v0 : TZ) (Q : (Int → TZ → Prop)) : Prop := ((u0 = 0 → (Q 0 v0)) ∧ (¬ u0 = 0 → (Z_LAW_now v0 (fun r31_ => ((¬ (lg_cmpZ r31_ y1) = 0 → (Q 0 v0)) ∧ ((lg_cmpZ r31_ y1) = 0 → (Q 1 v0)))))))
set_option maxRecDepth 100000 in
theorem zJ_LAW_errors_802 {y1 : Int64} {y1z : Int} {u0 : Int32} {u0z : Int} {v0 : TT} {v0z : TZ}  {Q : Int32 → TT → Prop} {Qz : (Int → TZ → Prop)} (e_y1 : y1.toInt = y1z) (e_u0 : u0.toInt = u0z) (e_v0 : (aT v0) = v0z) (h_Q : ∀ (a0 : Int32) (a1 : TT), Qz a0.toInt (aT a1) → Q a0 a1) (h : ZJ_LAW_errors_802 y1z u0z v0z Qz) : PJ_LAW_errors_802 y1 u0 v0 Q := by
  subst e_y1
  subst e_u0
  subst e_v0
  unfold ZJ_LAW_errors_802 at h
  unfold PJ_LAW_errors_802
  refine ⟨fun c2q => ?_, fun c2q => ?_⟩
  · have h := h.1 ((zt_eq rfl rfl).mp c2q)
    exact h_Q _ _ h
  · have h := h.2 (fun k => c2q ((zt_eq rfl rfl).mpr k))
    refine z_LAW_now rfl (fun r31_ h => ?_) h
    refine ⟨fun c1q => ?_, fun c1q => ?_⟩
    · have h := h.1 (fun k => c1q ((zt_eq (show (((lg_cmp r31_ y1) : Int32)).toInt = ((lg_cmpZ r31_.toInt y1.toInt) : Int) from (zt_lg_cmp rfl rfl)) rfl).mpr k))
      exact h_Q _ _ h
    · have h := h.2 ((zt_eq (show (((lg_cmp r31_ y1) : Int32)).toInt = ((lg_cmpZ r31_.toInt y1.toInt) : Int) from (zt_lg_cmp rfl rfl)) rfl).mp c1q)
      exact h_Q _ _ h
def ZJ_LAW_errors_801 (y1 : Int) (v0 : TZ) (Q : (Int → TZ → Prop)) : Prop := (ZJ_LAW_errors_802 y1 0 v0 Q)
set_option maxRecDepth 100000 in
theorem zJ_LAW_errors_801 {y1 : Int64} {y1z : Int} {v0 : TT} {v0z : TZ}  {Q : Int32 → TT → Prop} {Qz : (Int → TZ → Prop)} (e_y1 : y1.toInt = y1z) (e_v0 : (aT v0) = v0z) (h_Q : ∀ (a0 : Int32) (a1 : TT), Qz a0.toInt (aT a1) → Q a0 a1) (h : ZJ_LAW_errors_801 y1z v0z Qz) : PJ_LAW_errors_801 y1 v0 Q := by
  subst e_y1
  subst e_v0
  unfold ZJ_LAW_errors_801 at h
  unfold PJ_LAW_errors_801
  refine zJ_LAW_errors_802 rfl rfl rfl h_Q h
def ZJ_LAW_errors_605 (y1 : Int) (y3 : Int) (y4 : Int) (v0 : TZ) (Q : (Int → TZ → Prop)) : Prop := (Z_LAW_ticks 0 v0 (fun r70_ v75_ => ((¬ (lg_cmpZ r70_ (-9000000000000000002)) = 0 → (ZJ_LAW_errors_801 y1 v75_ Q)) ∧ ((lg_cmpZ r70_ (-9000000000000000002)) = 0 → (Z_LAW_ticks 100 v75_ (fun r80_ v85_ => ((¬ (lg_cmpZ r80_ (-9000000000000000002)) = 0 → (ZJ_LAW_errors_801 y1 v85_ Q)) ∧ ((lg_cmpZ r80_ (-9000000000000000002)) = 0 → zin (y4 + 1) ∧ (Z_LAW_truth 0 (y4 + 1) 0 v85_ (fun r90_ => ((¬ (lg_cmpZ r90_ (-9000000000000000001)) = 0 → (ZJ_LAW_errors_801 y1 v85_ Q)) ∧ ((lg_cmpZ r90_ (-9000000000000000001)) = 0 → zin (y3 - 1) ∧ (Z_LAW_truth 0 (y3 - 1) 0 v85_ (fun r96_ => ((¬ (lg_cmpZ r96_ (-9000000000000000001)) = 0 → (ZJ_LAW_errors_801 y1 v85_ Q)) ∧ ((lg_cmpZ r96_ (-9000000000000000001)) = 0 → (Z_LAW_truth 8 y3 0 v85_ (fun r102_ => ((¬ (lg_cmpZ r102_ (-9000000000000000002)) = 0 → (ZJ_LAW_errors_801 y1 v85_ Q)) ∧ ((lg_cmpZ r102_ (-9000000000000000002)) = 0 → (Z_LAW_truth 0 y3 2 v85_ (fun r108_ => ((¬ (lg_cmpZ r108_ (-9000000000000000002)) = 0 → (ZJ_LAW_errors_801 y1 v85_ Q)) ∧ ((lg_cmpZ r108_ (-9000000000000000002)) = 0 → (Z_LAW_leastRoom 0 v85_ (fun r114_ v119_ => ((¬ (lg_cmpZ r114_ (-9000000000000000002)) = 0 → (ZJ_LAW_errors_801 y1 v119_ Q)) ∧ ((lg_cmpZ r114_ (-9000000000000000002)) = 0 → (Z_LAW_leastRoom 201 v119_ (fun r124_ v129_ => ((¬ (lg_cmpZ r124_ (-9000000000000000002)) = 0 → (ZJ_LAW_errors_801 y1 v129_ Q)) ∧ ((lg_cmpZ r124_ (-9000000000000000002)) = 0 → (Z_LAW_script 0 0 v129_ (fun r134_ v139_ => ((¬ (lg_cmpZ r134_ (-9000000000000000002)) = 0 → (ZJ_LAW_errors_801 y1 v139_ Q)) ∧ ((lg_cmpZ r134_ (-9000000000000000002)) = 0 → (Z_LAW_script 3 1000000000000000000 v139_ (fun r144_ v149_ => ((¬ (lg_cmpZ r144_ (-9000000000000000002)) = 0 → (ZJ_LAW_errors_801 y1 v149_ Q)) ∧ ((lg_cmpZ r144_ (-9000000000000000002)) = 0 → (Z_LAW_simulate 1 0 v149_ (fun r154_ v159_ => ((¬ (lg_cmpZ r154_ (-9000000000000000002)) = 0 → (ZJ_LAW_errors_801 y1 v159_ Q)) ∧ ((lg_cmpZ r154_ (-9000000000000000002)) = 0 → (Z_LAW_save 2 v159_ (fun r164_ v169_ => ((¬ (lg_cmpZ r164_ (-9000000000000000001)) = 0 → (ZJ_LAW_errors_801 y1 v169_ Q)) ∧ ((lg_cmpZ r164_ (-9000000000000000001)) = 0 → (Z_LAW_restore 2 v169_ (fun r174_ v179_ => ((¬ (lg_cmpZ r174_ (-9000000000000000001)) = 0 → (ZJ_LAW_errors_801 y1 v179_ Q)) ∧ ((lg_cmpZ r174_ (-9000000000000000001)) = 0 → (Z_LAW_append 256 v179_ (fun r184_ v189_ => ((¬ (lg_cmpZ r184_ (-9000000000000000002)) = 0 → (ZJ_LAW_errors_801 y1 v189_ Q)) ∧ ((lg_cmpZ r184_ (-9000000000000000002)) = 0 → (ZJ_LAW_errors_802 y1 1 v189_ Q)))))))))))))))))))))))))))))))))))))))))))))))))))))))))
set_option maxRecDepth 100000 in
theorem zJ_LAW_errors_605 {y1 : Int64} {y1z : Int} {y3 : Int32} {y3z : Int} {y4 : Int32} {y4z : Int} {v0 : TT} {v0z : TZ}  {Q : Int32 → TT → Prop} {Qz : (Int → TZ → Prop)} (e_y1 : y1.toInt = y1z) (e_y3 : y3.toInt = y3z) (e_y4 : y4.toInt = y4z) (e_v0 : (aT v0) = v0z) (h_Q : ∀ (a0 : Int32) (a1 : TT), Qz a0.toInt (aT a1) → Q a0 a1) (h : ZJ_LAW_errors_605 y1z y3z y4z v0z Qz) : PJ_LAW_errors_605 y1 y3 y4 v0 Q := by
  subst e_y1
  subst e_y3
  subst e_y4
  subst e_v0
  unfold ZJ_LAW_errors_605 at h
  unfold PJ_LAW_errors_605
  refine z_LAW_ticks rfl rfl (fun r70_ v75_ h => ?_) h
  refine ⟨fun c16q => ?_, fun c16q => ?_⟩
  · have h := h.1 (fun k => c16q ((zt_eq (show (((lg_cmp r70_ (-9000000000000000002)) : Int32)).toInt = ((lg_cmpZ r70_.toInt (-9000000000000000002)) : Int) from (zt_lg_cmp rfl rfl)) rfl).mpr k))
    refine zJ_LAW_errors_801 rfl rfl h_Q h
  · have h := h.2 ((zt_eq (show (((lg_cmp r70_ (-9000000000000000002)) : Int32)).toInt = ((lg_cmpZ r70_.toInt (-9000000000000000002)) : Int) from (zt_lg_cmp rfl rfl)) rfl).mp c16q)
    refine z_LAW_ticks rfl rfl (fun r80_ v85_ h => ?_) h
    refine ⟨fun c15q => ?_, fun c15q => ?_⟩
    · have h := h.1 (fun k => c15q ((zt_eq (show (((lg_cmp r80_ (-9000000000000000002)) : Int32)).toInt = ((lg_cmpZ r80_.toInt (-9000000000000000002)) : Int) from (zt_lg_cmp rfl rfl)) rfl).mpr k))
      refine zJ_LAW_errors_801 rfl rfl h_Q h
    · have h := h.2 ((zt_eq (show (((lg_cmp r80_ (-9000000000000000002)) : Int32)).toInt = ((lg_cmpZ r80_.toInt (-9000000000000000002)) : Int) from (zt_lg_cmp rfl rfl)) rfl).mp c15q)
      obtain ⟨o1q, h⟩ := h
      refine z_LAW_truth rfl (show (((y4 + 1) : Int32)).toInt = ((y4.toInt + 1) : Int) from (zt_add rfl rfl o1q)) rfl rfl (fun r90_ h => ?_) h
      refine ⟨fun c14q => ?_, fun c14q => ?_⟩
      · have h := h.1 (fun k => c14q ((zt_eq (show (((lg_cmp r90_ (-9000000000000000001)) : Int32)).toInt = ((lg_cmpZ r90_.toInt (-9000000000000000001)) : Int) from (zt_lg_cmp rfl rfl)) rfl).mpr k))
        refine zJ_LAW_errors_801 rfl rfl h_Q h
      · have h := h.2 ((zt_eq (show (((lg_cmp r90_ (-9000000000000000001)) : Int32)).toInt = ((lg_cmpZ r90_.toInt (-9000000000000000001)) : Int) from (zt_lg_cmp rfl rfl)) rfl).mp c14q)
        obtain ⟨o2q, h⟩ := h
        refine z_LAW_truth rfl (show (((y3 - 1) : Int32)).toInt = ((y3.toInt - 1) : Int) from (zt_sub rfl rfl o2q)) rfl rfl (fun r96_ h => ?_) h
        refine ⟨fun c13q => ?_, fun c13q => ?_⟩
        · have h := h.1 (fun k => c13q ((zt_eq (show (((lg_cmp r96_ (-9000000000000000001)) : Int32)).toInt = ((lg_cmpZ r96_.toInt (-9000000000000000001)) : Int) from (zt_lg_cmp rfl rfl)) rfl).mpr k))
          refine zJ_LAW_errors_801 rfl rfl h_Q h
        · have h := h.2 ((zt_eq (show (((lg_cmp r96_ (-9000000000000000001)) : Int32)).toInt = ((lg_cmpZ r96_.toInt (-9000000000000000001)) : Int) from (zt_lg_cmp rfl rfl)) rfl).mp c13q)
          refine z_LAW_truth rfl rfl rfl rfl (fun r102_ h => ?_) h
          refine ⟨fun c12q => ?_, fun c12q => ?_⟩
          · have h := h.1 (fun k => c12q ((zt_eq (show (((lg_cmp r102_ (-9000000000000000002)) : Int32)).toInt = ((lg_cmpZ r102_.toInt (-9000000000000000002)) : Int) from (zt_lg_cmp rfl rfl)) rfl).mpr k))
            refine zJ_LAW_errors_801 rfl rfl h_Q h
          · have h := h.2 ((zt_eq (show (((lg_cmp r102_ (-9000000000000000002)) : Int32)).toInt = ((lg_cmpZ r102_.toInt (-9000000000000000002)) : Int) from (zt_lg_cmp rfl rfl)) rfl).mp c12q)
            refine z_LAW_truth rfl rfl rfl rfl (fun r108_ h => ?_) h
            refine ⟨fun c11q => ?_, fun c11q => ?_⟩
            · have h := h.1 (fun k => c11q ((zt_eq (show (((lg_cmp r108_ (-9000000000000000002)) : Int32)).toInt = ((lg_cmpZ r108_.toInt (-9000000000000000002)) : Int) from (zt_lg_cmp rfl rfl)) rfl).mpr k))
              refine zJ_LAW_errors_801 rfl rfl h_Q h
            · have h := h.2 ((zt_eq (show (((lg_cmp r108_ (-9000000000000000002)) : Int32)).toInt = ((lg_cmpZ r108_.toInt (-9000000000000000002)) : Int) from (zt_lg_cmp rfl rfl)) rfl).mp c11q)
              refine z_LAW_leastRoom rfl rfl (fun r114_ v119_ h => ?_) h
              refine ⟨fun c10q => ?_, fun c10q => ?_⟩
              · have h := h.1 (fun k => c10q ((zt_eq (show (((lg_cmp r114_ (-9000000000000000002)) : Int32)).toInt = ((lg_cmpZ r114_.toInt (-9000000000000000002)) : Int) from (zt_lg_cmp rfl rfl)) rfl).mpr k))
                refine zJ_LAW_errors_801 rfl rfl h_Q h
              · have h := h.2 ((zt_eq (show (((lg_cmp r114_ (-9000000000000000002)) : Int32)).toInt = ((lg_cmpZ r114_.toInt (-9000000000000000002)) : Int) from (zt_lg_cmp rfl rfl)) rfl).mp c10q)
                refine z_LAW_leastRoom rfl rfl (fun r124_ v129_ h => ?_) h
                refine ⟨fun c9q => ?_, fun c9q => ?_⟩
                · have h := h.1 (fun k => c9q ((zt_eq (show (((lg_cmp r124_ (-9000000000000000002)) : Int32)).toInt = ((lg_cmpZ r124_.toInt (-9000000000000000002)) : Int) from (zt_lg_cmp rfl rfl)) rfl).mpr k))
                  refine zJ_LAW_errors_801 rfl rfl h_Q h
                · have h := h.2 ((zt_eq (show (((lg_cmp r124_ (-9000000000000000002)) : Int32)).toInt = ((lg_cmpZ r124_.toInt (-9000000000000000002)) : Int) from (zt_lg_cmp rfl rfl)) rfl).mp c9q)
                  refine z_LAW_script rfl rfl rfl (fun r134_ v139_ h => ?_) h
                  refine ⟨fun c8q => ?_, fun c8q => ?_⟩
                  · have h := h.1 (fun k => c8q ((zt_eq (show (((lg_cmp r134_ (-9000000000000000002)) : Int32)).toInt = ((lg_cmpZ r134_.toInt (-9000000000000000002)) : Int) from (zt_lg_cmp rfl rfl)) rfl).mpr k))
                    refine zJ_LAW_errors_801 rfl rfl h_Q h
                  · have h := h.2 ((zt_eq (show (((lg_cmp r134_ (-9000000000000000002)) : Int32)).toInt = ((lg_cmpZ r134_.toInt (-9000000000000000002)) : Int) from (zt_lg_cmp rfl rfl)) rfl).mp c8q)
                    refine z_LAW_script rfl rfl rfl (fun r144_ v149_ h => ?_) h
                    refine ⟨fun c7q => ?_, fun c7q => ?_⟩
                    · have h := h.1 (fun k => c7q ((zt_eq (show (((lg_cmp r144_ (-9000000000000000002)) : Int32)).toInt = ((lg_cmpZ r144_.toInt (-9000000000000000002)) : Int) from (zt_lg_cmp rfl rfl)) rfl).mpr k))
                      refine zJ_LAW_errors_801 rfl rfl h_Q h
                    · have h := h.2 ((zt_eq (show (((lg_cmp r144_ (-9000000000000000002)) : Int32)).toInt = ((lg_cmpZ r144_.toInt (-9000000000000000002)) : Int) from (zt_lg_cmp rfl rfl)) rfl).mp c7q)
                      refine z_LAW_simulate rfl rfl rfl (fun r154_ v159_ h => ?_) h
                      refine ⟨fun c6q => ?_, fun c6q => ?_⟩
                      · have h := h.1 (fun k => c6q ((zt_eq (show (((lg_cmp r154_ (-9000000000000000002)) : Int32)).toInt = ((lg_cmpZ r154_.toInt (-9000000000000000002)) : Int) from (zt_lg_cmp rfl rfl)) rfl).mpr k))
                        refine zJ_LAW_errors_801 rfl rfl h_Q h
                      · have h := h.2 ((zt_eq (show (((lg_cmp r154_ (-9000000000000000002)) : Int32)).toInt = ((lg_cmpZ r154_.toInt (-9000000000000000002)) : Int) from (zt_lg_cmp rfl rfl)) rfl).mp c6q)
                        refine z_LAW_save rfl rfl (fun r164_ v169_ h => ?_) h
                        refine ⟨fun c5q => ?_, fun c5q => ?_⟩
                        · have h := h.1 (fun k => c5q ((zt_eq (show (((lg_cmp r164_ (-9000000000000000001)) : Int32)).toInt = ((lg_cmpZ r164_.toInt (-9000000000000000001)) : Int) from (zt_lg_cmp rfl rfl)) rfl).mpr k))
                          refine zJ_LAW_errors_801 rfl rfl h_Q h
                        · have h := h.2 ((zt_eq (show (((lg_cmp r164_ (-9000000000000000001)) : Int32)).toInt = ((lg_cmpZ r164_.toInt (-9000000000000000001)) : Int) from (zt_lg_cmp rfl rfl)) rfl).mp c5q)
                          refine z_LAW_restore rfl rfl (fun r174_ v179_ h => ?_) h
                          refine ⟨fun c4q => ?_, fun c4q => ?_⟩
                          · have h := h.1 (fun k => c4q ((zt_eq (show (((lg_cmp r174_ (-9000000000000000001)) : Int32)).toInt = ((lg_cmpZ r174_.toInt (-9000000000000000001)) : Int) from (zt_lg_cmp rfl rfl)) rfl).mpr k))
                            refine zJ_LAW_errors_801 rfl rfl h_Q h
                          · have h := h.2 ((zt_eq (show (((lg_cmp r174_ (-9000000000000000001)) : Int32)).toInt = ((lg_cmpZ r174_.toInt (-9000000000000000001)) : Int) from (zt_lg_cmp rfl rfl)) rfl).mp c4q)
                            refine z_LAW_append rfl rfl (fun r184_ v189_ h => ?_) h
                            refine ⟨fun c3q => ?_, fun c3q => ?_⟩
                            · have h := h.1 (fun k => c3q ((zt_eq (show (((lg_cmp r184_ (-9000000000000000002)) : Int32)).toInt = ((lg_cmpZ r184_.toInt (-9000000000000000002)) : Int) from (zt_lg_cmp rfl rfl)) rfl).mpr k))
                              refine zJ_LAW_errors_801 rfl rfl h_Q h
                            · have h := h.2 ((zt_eq (show (((lg_cmp r184_ (-9000000000000000002)) : Int32)).toInt = ((lg_cmpZ r184_.toInt (-9000000000000000002)) : Int) from (zt_lg_cmp rfl rfl)) rfl).mp c3q)
                              refine zJ_LAW_errors_802 rfl rfl rfl h_Q h
def ZJ_LAW_errors_462 (y1 : Int) (y3 : Int) (y4 : Int) (y5 : Int) (y6 : Int) (u0 : Int) (v0 : TZ) (Q : (Int → TZ → Prop)) : Prop := ((u0 = 0 → (ZJ_LAW_errors_801 y1 v0 Q)) ∧ (¬ u0 = 0 → ((y6 = 0 → (Z_LAW_readerOf y5 9 v0 (fun r38_ => ((¬ (lg_cmpZ r38_ (-9000000000000000002)) = 0 → (ZJ_LAW_errors_801 y1 v0 Q)) ∧ ((lg_cmpZ r38_ (-9000000000000000002)) = 0 → (Z_LAW_table y5 8 v0 (fun r44_ => ((¬ (lg_cmpZ r44_ (-9000000000000000002)) = 0 → (ZJ_LAW_errors_801 y1 v0 Q)) ∧ ((lg_cmpZ r44_ (-9000000000000000002)) = 0 → (Z_LAW_read y5 51 v0 (fun r50_ v55_ => ((¬ (lg_cmpZ r50_ (-9000000000000000002)) = 0 → (ZJ_LAW_errors_801 y1 v55_ Q)) ∧ ((lg_cmpZ r50_ (-9000000000000000002)) = 0 → (Z_LAW_join y5 0 0 v55_ (fun r60_ v65_ => ((¬ (lg_cmpZ r60_ (-9000000000000000003)) = 0 → (ZJ_LAW_errors_801 y1 v65_ Q)) ∧ ((lg_cmpZ r60_ (-9000000000000000003)) = 0 → (ZJ_LAW_errors_605 y1 y3 y4 v65_ Q)))))))))))))))))) ∧ (¬ y6 = 0 → (Z_LAW_readerOf y5 9 v0 (fun r194_ => ((¬ (lg_cmpZ r194_ (-9000000000000000001)) = 0 → (ZJ_LAW_errors_801 y1 v0 Q)) ∧ ((lg_cmpZ r194_ (-9000000000000000001)) = 0 → (Z_LAW_read y5 1 v0 (fun r200_ v205_ => ((¬ (lg_cmpZ r200_ (-9000000000000000001)) = 0 → (ZJ_LAW_errors_801 y1 v205_ Q)) ∧ ((lg_cmpZ r200_ (-9000000000000000001)) = 0 → (Z_LAW_leave y5 v205_ (fun r210_ v215_ => ((¬ (lg_cmpZ r210_ (-9000000000000000001)) = 0 → (ZJ_LAW_errors_801 y1 v215_ Q)) ∧ ((lg_cmpZ r210_ (-9000000000000000001)) = 0 → (Z_LAW_lostIn y5 v215_ (fun r220_ v225_ => ((¬ (lg_cmpZ r220_ (-9000000000000000001)) = 0 → (ZJ_LAW_errors_801 y1 v225_ Q)) ∧ ((lg_cmpZ r220_ (-9000000000000000001)) = 0 → (Z_LAW_ifFree y5 v225_ (fun r230_ v235_ => ((¬ (lg_cmpZ r230_ (-9000000000000000001)) = 0 → (ZJ_LAW_errors_801 y1 v235_ Q)) ∧ ((lg_cmpZ r230_ (-9000000000000000001)) = 0 → (ZJ_LAW_errors_605 y1 y3 y4 v235_ Q)))))))))))))))))))))))))
set_option maxRecDepth 100000 in
theorem zJ_LAW_errors_462 {y1 : Int64} {y1z : Int} {y3 : Int32} {y3z : Int} {y4 : Int32} {y4z : Int} {y5 : Int32} {y5z : Int} {y6 : Int32} {y6z : Int} {u0 : Int32} {u0z : Int} {v0 : TT} {v0z : TZ}  {Q : Int32 → TT → Prop} {Qz : (Int → TZ → Prop)} (e_y1 : y1.toInt = y1z) (e_y3 : y3.toInt = y3z) (e_y4 : y4.toInt = y4z) (e_y5 : y5.toInt = y5z) (e_y6 : y6.toInt = y6z) (e_u0 : u0.toInt = u0z) (e_v0 : (aT v0) = v0z) (h_Q : ∀ (a0 : Int32) (a1 : TT), Qz a0.toInt (aT a1) → Q a0 a1) (h : ZJ_LAW_errors_462 y1z y3z y4z y5z y6z u0z v0z Qz) : PJ_LAW_errors_462 y1 y3 y4 y5 y6 u0 v0 Q := by
  subst e_y1
  subst e_y3
  subst e_y4
  subst e_y5
  subst e_y6
  subst e_u0
  subst e_v0
  unfold ZJ_LAW_errors_462 at h
  unfold PJ_LAW_errors_462
  refine ⟨fun c11q => ?_, fun c11q => ?_⟩
  · have h := h.1 ((zt_eq rfl rfl).mp c11q)
    refine zJ_LAW_errors_801 rfl rfl h_Q h
  · have h := h.2 (fun k => c11q ((zt_eq rfl rfl).mpr k))
    refine ⟨fun c10q => ?_, fun c10q => ?_⟩
    · have h := h.1 ((zt_eq rfl rfl).mp c10q)
      refine z_LAW_readerOf rfl rfl rfl (fun r38_ h => ?_) h
      refine ⟨fun c4q => ?_, fun c4q => ?_⟩
      · have h := h.1 (fun k => c4q ((zt_eq (show (((lg_cmp r38_ (-9000000000000000002)) : Int32)).toInt = ((lg_cmpZ r38_.toInt (-9000000000000000002)) : Int) from (zt_lg_cmp rfl rfl)) rfl).mpr k))
        refine zJ_LAW_errors_801 rfl rfl h_Q h
      · have h := h.2 ((zt_eq (show (((lg_cmp r38_ (-9000000000000000002)) : Int32)).toInt = ((lg_cmpZ r38_.toInt (-9000000000000000002)) : Int) from (zt_lg_cmp rfl rfl)) rfl).mp c4q)
        refine z_LAW_table rfl rfl rfl (fun r44_ h => ?_) h
        refine ⟨fun c3q => ?_, fun c3q => ?_⟩
        · have h := h.1 (fun k => c3q ((zt_eq (show (((lg_cmp r44_ (-9000000000000000002)) : Int32)).toInt = ((lg_cmpZ r44_.toInt (-9000000000000000002)) : Int) from (zt_lg_cmp rfl rfl)) rfl).mpr k))
          refine zJ_LAW_errors_801 rfl rfl h_Q h
        · have h := h.2 ((zt_eq (show (((lg_cmp r44_ (-9000000000000000002)) : Int32)).toInt = ((lg_cmpZ r44_.toInt (-9000000000000000002)) : Int) from (zt_lg_cmp rfl rfl)) rfl).mp c3q)
          refine z_LAW_read rfl rfl rfl (fun r50_ v55_ h => ?_) h
          refine ⟨fun c2q => ?_, fun c2q => ?_⟩
          · have h := h.1 (fun k => c2q ((zt_eq (show (((lg_cmp r50_ (-9000000000000000002)) : Int32)).toInt = ((lg_cmpZ r50_.toInt (-9000000000000000002)) : Int) from (zt_lg_cmp rfl rfl)) rfl).mpr k))
            refine zJ_LAW_errors_801 rfl rfl h_Q h
          · have h := h.2 ((zt_eq (show (((lg_cmp r50_ (-9000000000000000002)) : Int32)).toInt = ((lg_cmpZ r50_.toInt (-9000000000000000002)) : Int) from (zt_lg_cmp rfl rfl)) rfl).mp c2q)
            refine z_LAW_join rfl rfl rfl rfl (fun r60_ v65_ h => ?_) h
            refine ⟨fun c1q => ?_, fun c1q => ?_⟩
            · have h := h.1 (fun k => c1q ((zt_eq (show (((lg_cmp r60_ (-9000000000000000003)) : Int32)).toInt = ((lg_cmpZ r60_.toInt (-9000000000000000003)) : Int) from (zt_lg_cmp rfl rfl)) rfl).mpr k))
              refine zJ_LAW_errors_801 rfl rfl h_Q h
            · have h := h.2 ((zt_eq (show (((lg_cmp r60_ (-9000000000000000003)) : Int32)).toInt = ((lg_cmpZ r60_.toInt (-9000000000000000003)) : Int) from (zt_lg_cmp rfl rfl)) rfl).mp c1q)
              refine zJ_LAW_errors_605 rfl rfl rfl rfl h_Q h
    · have h := h.2 (fun k => c10q ((zt_eq rfl rfl).mpr k))
      refine z_LAW_readerOf rfl rfl rfl (fun r194_ h => ?_) h
      refine ⟨fun c9q => ?_, fun c9q => ?_⟩
      · have h := h.1 (fun k => c9q ((zt_eq (show (((lg_cmp r194_ (-9000000000000000001)) : Int32)).toInt = ((lg_cmpZ r194_.toInt (-9000000000000000001)) : Int) from (zt_lg_cmp rfl rfl)) rfl).mpr k))
        refine zJ_LAW_errors_801 rfl rfl h_Q h
      · have h := h.2 ((zt_eq (show (((lg_cmp r194_ (-9000000000000000001)) : Int32)).toInt = ((lg_cmpZ r194_.toInt (-9000000000000000001)) : Int) from (zt_lg_cmp rfl rfl)) rfl).mp c9q)
        refine z_LAW_read rfl rfl rfl (fun r200_ v205_ h => ?_) h
        refine ⟨fun c8q => ?_, fun c8q => ?_⟩
        · have h := h.1 (fun k => c8q ((zt_eq (show (((lg_cmp r200_ (-9000000000000000001)) : Int32)).toInt = ((lg_cmpZ r200_.toInt (-9000000000000000001)) : Int) from (zt_lg_cmp rfl rfl)) rfl).mpr k))
          refine zJ_LAW_errors_801 rfl rfl h_Q h
        · have h := h.2 ((zt_eq (show (((lg_cmp r200_ (-9000000000000000001)) : Int32)).toInt = ((lg_cmpZ r200_.toInt (-9000000000000000001)) : Int) from (zt_lg_cmp rfl rfl)) rfl).mp c8q)
          refine z_LAW_leave rfl rfl (fun r210_ v215_ h => ?_) h
          refine ⟨fun c7q => ?_, fun c7q => ?_⟩
          · have h := h.1 (fun k => c7q ((zt_eq (show (((lg_cmp r210_ (-9000000000000000001)) : Int32)).toInt = ((lg_cmpZ r210_.toInt (-9000000000000000001)) : Int) from (zt_lg_cmp rfl rfl)) rfl).mpr k))
            refine zJ_LAW_errors_801 rfl rfl h_Q h
          · have h := h.2 ((zt_eq (show (((lg_cmp r210_ (-9000000000000000001)) : Int32)).toInt = ((lg_cmpZ r210_.toInt (-9000000000000000001)) : Int) from (zt_lg_cmp rfl rfl)) rfl).mp c7q)
            refine z_LAW_lostIn rfl rfl (fun r220_ v225_ h => ?_) h
            refine ⟨fun c6q => ?_, fun c6q => ?_⟩
            · have h := h.1 (fun k => c6q ((zt_eq (show (((lg_cmp r220_ (-9000000000000000001)) : Int32)).toInt = ((lg_cmpZ r220_.toInt (-9000000000000000001)) : Int) from (zt_lg_cmp rfl rfl)) rfl).mpr k))
              refine zJ_LAW_errors_801 rfl rfl h_Q h
            · have h := h.2 ((zt_eq (show (((lg_cmp r220_ (-9000000000000000001)) : Int32)).toInt = ((lg_cmpZ r220_.toInt (-9000000000000000001)) : Int) from (zt_lg_cmp rfl rfl)) rfl).mp c6q)
              refine z_LAW_ifFree rfl rfl (fun r230_ v235_ h => ?_) h
              refine ⟨fun c5q => ?_, fun c5q => ?_⟩
              · have h := h.1 (fun k => c5q ((zt_eq (show (((lg_cmp r230_ (-9000000000000000001)) : Int32)).toInt = ((lg_cmpZ r230_.toInt (-9000000000000000001)) : Int) from (zt_lg_cmp rfl rfl)) rfl).mpr k))
                refine zJ_LAW_errors_801 rfl rfl h_Q h
              · have h := h.2 ((zt_eq (show (((lg_cmp r230_ (-9000000000000000001)) : Int32)).toInt = ((lg_cmpZ r230_.toInt (-9000000000000000001)) : Int) from (zt_lg_cmp rfl rfl)) rfl).mp c5q)
                refine zJ_LAW_errors_605 rfl rfl rfl rfl h_Q h
def ZJ_LAW_errors_461 (y1 : Int) (y3 : Int) (y4 : Int) (y5 : Int) (y6 : Int) (v0 : TZ) (Q : (Int → TZ → Prop)) : Prop := (ZJ_LAW_errors_462 y1 y3 y4 y5 y6 0 v0 Q)
set_option maxRecDepth 100000 in
theorem zJ_LAW_errors_461 {y1 : Int64} {y1z : Int} {y3 : Int32} {y3z : Int} {y4 : Int32} {y4z : Int} {y5 : Int32} {y5z : Int} {y6 : Int32} {y6z : Int} {v0 : TT} {v0z : TZ}  {Q : Int32 → TT → Prop} {Qz : (Int → TZ → Prop)} (e_y1 : y1.toInt = y1z) (e_y3 : y3.toInt = y3z) (e_y4 : y4.toInt = y4z) (e_y5 : y5.toInt = y5z) (e_y6 : y6.toInt = y6z) (e_v0 : (aT v0) = v0z) (h_Q : ∀ (a0 : Int32) (a1 : TT), Qz a0.toInt (aT a1) → Q a0 a1) (h : ZJ_LAW_errors_461 y1z y3z y4z y5z y6z v0z Qz) : PJ_LAW_errors_461 y1 y3 y4 y5 y6 v0 Q := by
  subst e_y1
  subst e_y3
  subst e_y4
  subst e_y5
  subst e_y6
  subst e_v0
  unfold ZJ_LAW_errors_461 at h
  unfold PJ_LAW_errors_461
  refine zJ_LAW_errors_462 rfl rfl rfl rfl rfl rfl rfl h_Q h
def ZJ_LAW_errors_192 (y1 : Int) (y3 : Int) (y4 : Int) (y5 : Int) (y6 : Int) (v0 : TZ) (Q : (Int → TZ → Prop)) : Prop := (Z_LAW_readerOf 8 9 v0 (fun r276_ => ((¬ (lg_cmpZ r276_ (-9000000000000000001)) = 0 → (ZJ_LAW_errors_461 y1 y3 y4 y5 y6 v0 Q)) ∧ ((lg_cmpZ r276_ (-9000000000000000001)) = 0 → (Z_LAW_table (-1) 8 v0 (fun r282_ => ((¬ (lg_cmpZ r282_ (-9000000000000000001)) = 0 → (ZJ_LAW_errors_461 y1 y3 y4 y5 y6 v0 Q)) ∧ ((lg_cmpZ r282_ (-9000000000000000001)) = 0 → (Z_LAW_base 8 v0 (fun r288_ => ((¬ (lg_cmpZ r288_ (-9000000000000000002)) = 0 → (ZJ_LAW_errors_461 y1 y3 y4 y5 y6 v0 Q)) ∧ ((lg_cmpZ r288_ (-9000000000000000002)) = 0 → (Z_LAW_setting 6 v0 (fun r294_ => ((¬ (lg_cmpZ r294_ (-9000000000000000002)) = 0 → (ZJ_LAW_errors_461 y1 y3 y4 y5 y6 v0 Q)) ∧ ((lg_cmpZ r294_ (-9000000000000000002)) = 0 → (Z_LAW_write 8 0 1 v0 (fun r300_ v305_ => ((¬ (lg_cmpZ r300_ (-9000000000000000002)) = 0 → (ZJ_LAW_errors_461 y1 y3 y4 y5 y6 v305_ Q)) ∧ ((lg_cmpZ r300_ (-9000000000000000002)) = 0 → (Z_LAW_write 0 100 1 v305_ (fun r310_ v315_ => ((¬ (lg_cmpZ r310_ (-9000000000000000002)) = 0 → (ZJ_LAW_errors_461 y1 y3 y4 y5 y6 v315_ Q)) ∧ ((lg_cmpZ r310_ (-9000000000000000002)) = 0 → (Z_LAW_write 0 0 0 v315_ (fun r320_ v325_ => ((¬ (lg_cmpZ r320_ (-9000000000000000002)) = 0 → (ZJ_LAW_errors_461 y1 y3 y4 y5 y6 v325_ Q)) ∧ ((lg_cmpZ r320_ (-9000000000000000002)) = 0 → (Z_LAW_join 8 0 1 v325_ (fun r330_ v335_ => ((¬ (lg_cmpZ r330_ (-9000000000000000002)) = 0 → (ZJ_LAW_errors_461 y1 y3 y4 y5 y6 v335_ Q)) ∧ ((lg_cmpZ r330_ (-9000000000000000002)) = 0 → (Z_LAW_join 0 3 1 v335_ (fun r340_ v345_ => ((¬ (lg_cmpZ r340_ (-9000000000000000002)) = 0 → (ZJ_LAW_errors_461 y1 y3 y4 y5 y6 v345_ Q)) ∧ ((lg_cmpZ r340_ (-9000000000000000002)) = 0 → (Z_LAW_read 8 0 v345_ (fun r350_ v355_ => ((¬ (lg_cmpZ r350_ (-9000000000000000001)) = 0 → (ZJ_LAW_errors_461 y1 y3 y4 y5 y6 v355_ Q)) ∧ ((lg_cmpZ r350_ (-9000000000000000001)) = 0 → (Z_LAW_leave (-1) v355_ (fun r360_ v365_ => ((¬ (lg_cmpZ r360_ (-9000000000000000001)) = 0 → (ZJ_LAW_errors_461 y1 y3 y4 y5 y6 v365_ Q)) ∧ ((lg_cmpZ r360_ (-9000000000000000001)) = 0 → (Z_LAW_hold 8 1 v365_ (fun r370_ v375_ => ((¬ (lg_cmpZ r370_ (-9000000000000000001)) = 0 → (ZJ_LAW_errors_461 y1 y3 y4 y5 y6 v375_ Q)) ∧ ((lg_cmpZ r370_ (-9000000000000000001)) = 0 → (Z_LAW_set 0 0 v375_ (fun r380_ v385_ => ((¬ (lg_cmpZ r380_ (-9000000000000000002)) = 0 → (ZJ_LAW_errors_461 y1 y3 y4 y5 y6 v385_ Q)) ∧ ((lg_cmpZ r380_ (-9000000000000000002)) = 0 → (Z_LAW_set 1 39 v385_ (fun r390_ v395_ => ((¬ (lg_cmpZ r390_ (-9000000000000000002)) = 0 → (ZJ_LAW_errors_461 y1 y3 y4 y5 y6 v395_ Q)) ∧ ((lg_cmpZ r390_ (-9000000000000000002)) = 0 → (Z_LAW_set 2 100 v395_ (fun r400_ v405_ => ((¬ (lg_cmpZ r400_ (-9000000000000000002)) = 0 → (ZJ_LAW_errors_461 y1 y3 y4 y5 y6 v405_ Q)) ∧ ((lg_cmpZ r400_ (-9000000000000000002)) = 0 → (Z_LAW_set 3 4001 v405_ (fun r410_ v415_ => ((¬ (lg_cmpZ r410_ (-9000000000000000002)) = 0 → (ZJ_LAW_errors_461 y1 y3 y4 y5 y6 v415_ Q)) ∧ ((lg_cmpZ r410_ (-9000000000000000002)) = 0 → (Z_LAW_set 4 (-1) v415_ (fun r420_ v425_ => ((¬ (lg_cmpZ r420_ (-9000000000000000002)) = 0 → (ZJ_LAW_errors_461 y1 y3 y4 y5 y6 v425_ Q)) ∧ ((lg_cmpZ r420_ (-9000000000000000002)) = 0 → (Z_LAW_set 5 100 v425_ (fun r430_ v435_ => ((¬ (lg_cmpZ r430_ (-9000000000000000002)) = 0 → (ZJ_LAW_errors_461 y1 y3 y4 y5 y6 v435_ Q)) ∧ ((lg_cmpZ r430_ (-9000000000000000002)) = 0 → (Z_LAW_set 6 0 v435_ (fun r440_ v445_ => ((¬ (lg_cmpZ r440_ (-9000000000000000002)) = 0 → (ZJ_LAW_errors_461 y1 y3 y4 y5 y6 v445_ Q)) ∧ ((lg_cmpZ r440_ (-9000000000000000002)) = 0 → (ZJ_LAW_errors_462 y1 y3 y4 y5 y6 1 v445_ Q)))))))))))))))))))))))))))))))))))))))))))))))))))))))))))))))))))))))))))))
set_option maxRecDepth 100000 in
theorem zJ_LAW_errors_192 {y1 : Int64} {y1z : Int} {y3 : Int32} {y3z : Int} {y4 : Int32} {y4z : Int} {y5 : Int32} {y5z : Int} {y6 : Int32} {y6z : Int} {v0 : TT} {v0z : TZ}  {Q : Int32 → TT → Prop} {Qz : (Int → TZ → Prop)} (e_y1 : y1.toInt = y1z) (e_y3 : y3.toInt = y3z) (e_y4 : y4.toInt = y4z) (e_y5 : y5.toInt = y5z) (e_y6 : y6.toInt = y6z) (e_v0 : (aT v0) = v0z) (h_Q : ∀ (a0 : Int32) (a1 : TT), Qz a0.toInt (aT a1) → Q a0 a1) (h : ZJ_LAW_errors_192 y1z y3z y4z y5z y6z v0z Qz) : PJ_LAW_errors_192 y1 y3 y4 y5 y6 v0 Q := by
  subst e_y1
  subst e_y3
  subst e_y4
  subst e_y5
  subst e_y6
  subst e_v0
  unfold ZJ_LAW_errors_192 at h
  unfold PJ_LAW_errors_192
  refine z_LAW_readerOf rfl rfl rfl (fun r276_ h => ?_) h
  refine ⟨fun c19q => ?_, fun c19q => ?_⟩
  · have h := h.1 (fun k => c19q ((zt_eq (show (((lg_cmp r276_ (-9000000000000000001)) : Int32)).toInt = ((lg_cmpZ r276_.toInt (-9000000000000000001)) : Int) from (zt_lg_cmp rfl rfl)) rfl).mpr k))
    refine zJ_LAW_errors_461 rfl rfl rfl rfl rfl rfl h_Q h
  · have h := h.2 ((zt_eq (show (((lg_cmp r276_ (-9000000000000000001)) : Int32)).toInt = ((lg_cmpZ r276_.toInt (-9000000000000000001)) : Int) from (zt_lg_cmp rfl rfl)) rfl).mp c19q)
    refine z_LAW_table rfl rfl rfl (fun r282_ h => ?_) h
    refine ⟨fun c18q => ?_, fun c18q => ?_⟩
    · have h := h.1 (fun k => c18q ((zt_eq (show (((lg_cmp r282_ (-9000000000000000001)) : Int32)).toInt = ((lg_cmpZ r282_.toInt (-9000000000000000001)) : Int) from (zt_lg_cmp rfl rfl)) rfl).mpr k))
      refine zJ_LAW_errors_461 rfl rfl rfl rfl rfl rfl h_Q h
    · have h := h.2 ((zt_eq (show (((lg_cmp r282_ (-9000000000000000001)) : Int32)).toInt = ((lg_cmpZ r282_.toInt (-9000000000000000001)) : Int) from (zt_lg_cmp rfl rfl)) rfl).mp c18q)
      refine z_LAW_base rfl rfl (fun r288_ h => ?_) h
      refine ⟨fun c17q => ?_, fun c17q => ?_⟩
      · have h := h.1 (fun k => c17q ((zt_eq (show (((lg_cmp r288_ (-9000000000000000002)) : Int32)).toInt = ((lg_cmpZ r288_.toInt (-9000000000000000002)) : Int) from (zt_lg_cmp rfl rfl)) rfl).mpr k))
        refine zJ_LAW_errors_461 rfl rfl rfl rfl rfl rfl h_Q h
      · have h := h.2 ((zt_eq (show (((lg_cmp r288_ (-9000000000000000002)) : Int32)).toInt = ((lg_cmpZ r288_.toInt (-9000000000000000002)) : Int) from (zt_lg_cmp rfl rfl)) rfl).mp c17q)
        refine z_LAW_setting rfl rfl (fun r294_ h => ?_) h
        refine ⟨fun c16q => ?_, fun c16q => ?_⟩
        · have h := h.1 (fun k => c16q ((zt_eq (show (((lg_cmp r294_ (-9000000000000000002)) : Int32)).toInt = ((lg_cmpZ r294_.toInt (-9000000000000000002)) : Int) from (zt_lg_cmp rfl rfl)) rfl).mpr k))
          refine zJ_LAW_errors_461 rfl rfl rfl rfl rfl rfl h_Q h
        · have h := h.2 ((zt_eq (show (((lg_cmp r294_ (-9000000000000000002)) : Int32)).toInt = ((lg_cmpZ r294_.toInt (-9000000000000000002)) : Int) from (zt_lg_cmp rfl rfl)) rfl).mp c16q)
          refine z_LAW_write rfl rfl rfl rfl (fun r300_ v305_ h => ?_) h
          refine ⟨fun c15q => ?_, fun c15q => ?_⟩
          · have h := h.1 (fun k => c15q ((zt_eq (show (((lg_cmp r300_ (-9000000000000000002)) : Int32)).toInt = ((lg_cmpZ r300_.toInt (-9000000000000000002)) : Int) from (zt_lg_cmp rfl rfl)) rfl).mpr k))
            refine zJ_LAW_errors_461 rfl rfl rfl rfl rfl rfl h_Q h
          · have h := h.2 ((zt_eq (show (((lg_cmp r300_ (-9000000000000000002)) : Int32)).toInt = ((lg_cmpZ r300_.toInt (-9000000000000000002)) : Int) from (zt_lg_cmp rfl rfl)) rfl).mp c15q)
            refine z_LAW_write rfl rfl rfl rfl (fun r310_ v315_ h => ?_) h
            refine ⟨fun c14q => ?_, fun c14q => ?_⟩
            · have h := h.1 (fun k => c14q ((zt_eq (show (((lg_cmp r310_ (-9000000000000000002)) : Int32)).toInt = ((lg_cmpZ r310_.toInt (-9000000000000000002)) : Int) from (zt_lg_cmp rfl rfl)) rfl).mpr k))
              refine zJ_LAW_errors_461 rfl rfl rfl rfl rfl rfl h_Q h
            · have h := h.2 ((zt_eq (show (((lg_cmp r310_ (-9000000000000000002)) : Int32)).toInt = ((lg_cmpZ r310_.toInt (-9000000000000000002)) : Int) from (zt_lg_cmp rfl rfl)) rfl).mp c14q)
              refine z_LAW_write rfl rfl rfl rfl (fun r320_ v325_ h => ?_) h
              refine ⟨fun c13q => ?_, fun c13q => ?_⟩
              · have h := h.1 (fun k => c13q ((zt_eq (show (((lg_cmp r320_ (-9000000000000000002)) : Int32)).toInt = ((lg_cmpZ r320_.toInt (-9000000000000000002)) : Int) from (zt_lg_cmp rfl rfl)) rfl).mpr k))
                refine zJ_LAW_errors_461 rfl rfl rfl rfl rfl rfl h_Q h
              · have h := h.2 ((zt_eq (show (((lg_cmp r320_ (-9000000000000000002)) : Int32)).toInt = ((lg_cmpZ r320_.toInt (-9000000000000000002)) : Int) from (zt_lg_cmp rfl rfl)) rfl).mp c13q)
                refine z_LAW_join rfl rfl rfl rfl (fun r330_ v335_ h => ?_) h
                refine ⟨fun c12q => ?_, fun c12q => ?_⟩
                · have h := h.1 (fun k => c12q ((zt_eq (show (((lg_cmp r330_ (-9000000000000000002)) : Int32)).toInt = ((lg_cmpZ r330_.toInt (-9000000000000000002)) : Int) from (zt_lg_cmp rfl rfl)) rfl).mpr k))
                  refine zJ_LAW_errors_461 rfl rfl rfl rfl rfl rfl h_Q h
                · have h := h.2 ((zt_eq (show (((lg_cmp r330_ (-9000000000000000002)) : Int32)).toInt = ((lg_cmpZ r330_.toInt (-9000000000000000002)) : Int) from (zt_lg_cmp rfl rfl)) rfl).mp c12q)
                  refine z_LAW_join rfl rfl rfl rfl (fun r340_ v345_ h => ?_) h
                  refine ⟨fun c11q => ?_, fun c11q => ?_⟩
                  · have h := h.1 (fun k => c11q ((zt_eq (show (((lg_cmp r340_ (-9000000000000000002)) : Int32)).toInt = ((lg_cmpZ r340_.toInt (-9000000000000000002)) : Int) from (zt_lg_cmp rfl rfl)) rfl).mpr k))
                    refine zJ_LAW_errors_461 rfl rfl rfl rfl rfl rfl h_Q h
                  · have h := h.2 ((zt_eq (show (((lg_cmp r340_ (-9000000000000000002)) : Int32)).toInt = ((lg_cmpZ r340_.toInt (-9000000000000000002)) : Int) from (zt_lg_cmp rfl rfl)) rfl).mp c11q)
                    refine z_LAW_read rfl rfl rfl (fun r350_ v355_ h => ?_) h
                    refine ⟨fun c10q => ?_, fun c10q => ?_⟩
                    · have h := h.1 (fun k => c10q ((zt_eq (show (((lg_cmp r350_ (-9000000000000000001)) : Int32)).toInt = ((lg_cmpZ r350_.toInt (-9000000000000000001)) : Int) from (zt_lg_cmp rfl rfl)) rfl).mpr k))
                      refine zJ_LAW_errors_461 rfl rfl rfl rfl rfl rfl h_Q h
                    · have h := h.2 ((zt_eq (show (((lg_cmp r350_ (-9000000000000000001)) : Int32)).toInt = ((lg_cmpZ r350_.toInt (-9000000000000000001)) : Int) from (zt_lg_cmp rfl rfl)) rfl).mp c10q)
                      refine z_LAW_leave rfl rfl (fun r360_ v365_ h => ?_) h
                      refine ⟨fun c9q => ?_, fun c9q => ?_⟩
                      · have h := h.1 (fun k => c9q ((zt_eq (show (((lg_cmp r360_ (-9000000000000000001)) : Int32)).toInt = ((lg_cmpZ r360_.toInt (-9000000000000000001)) : Int) from (zt_lg_cmp rfl rfl)) rfl).mpr k))
                        refine zJ_LAW_errors_461 rfl rfl rfl rfl rfl rfl h_Q h
                      · have h := h.2 ((zt_eq (show (((lg_cmp r360_ (-9000000000000000001)) : Int32)).toInt = ((lg_cmpZ r360_.toInt (-9000000000000000001)) : Int) from (zt_lg_cmp rfl rfl)) rfl).mp c9q)
                        refine z_LAW_hold rfl rfl rfl (fun r370_ v375_ h => ?_) h
                        refine ⟨fun c8q => ?_, fun c8q => ?_⟩
                        · have h := h.1 (fun k => c8q ((zt_eq (show (((lg_cmp r370_ (-9000000000000000001)) : Int32)).toInt = ((lg_cmpZ r370_.toInt (-9000000000000000001)) : Int) from (zt_lg_cmp rfl rfl)) rfl).mpr k))
                          refine zJ_LAW_errors_461 rfl rfl rfl rfl rfl rfl h_Q h
                        · have h := h.2 ((zt_eq (show (((lg_cmp r370_ (-9000000000000000001)) : Int32)).toInt = ((lg_cmpZ r370_.toInt (-9000000000000000001)) : Int) from (zt_lg_cmp rfl rfl)) rfl).mp c8q)
                          refine z_LAW_set rfl rfl rfl (fun r380_ v385_ h => ?_) h
                          refine ⟨fun c7q => ?_, fun c7q => ?_⟩
                          · have h := h.1 (fun k => c7q ((zt_eq (show (((lg_cmp r380_ (-9000000000000000002)) : Int32)).toInt = ((lg_cmpZ r380_.toInt (-9000000000000000002)) : Int) from (zt_lg_cmp rfl rfl)) rfl).mpr k))
                            refine zJ_LAW_errors_461 rfl rfl rfl rfl rfl rfl h_Q h
                          · have h := h.2 ((zt_eq (show (((lg_cmp r380_ (-9000000000000000002)) : Int32)).toInt = ((lg_cmpZ r380_.toInt (-9000000000000000002)) : Int) from (zt_lg_cmp rfl rfl)) rfl).mp c7q)
                            refine z_LAW_set rfl rfl rfl (fun r390_ v395_ h => ?_) h
                            refine ⟨fun c6q => ?_, fun c6q => ?_⟩
                            · have h := h.1 (fun k => c6q ((zt_eq (show (((lg_cmp r390_ (-9000000000000000002)) : Int32)).toInt = ((lg_cmpZ r390_.toInt (-9000000000000000002)) : Int) from (zt_lg_cmp rfl rfl)) rfl).mpr k))
                              refine zJ_LAW_errors_461 rfl rfl rfl rfl rfl rfl h_Q h
                            · have h := h.2 ((zt_eq (show (((lg_cmp r390_ (-9000000000000000002)) : Int32)).toInt = ((lg_cmpZ r390_.toInt (-9000000000000000002)) : Int) from (zt_lg_cmp rfl rfl)) rfl).mp c6q)
                              refine z_LAW_set rfl rfl rfl (fun r400_ v405_ h => ?_) h
                              refine ⟨fun c5q => ?_, fun c5q => ?_⟩
                              · have h := h.1 (fun k => c5q ((zt_eq (show (((lg_cmp r400_ (-9000000000000000002)) : Int32)).toInt = ((lg_cmpZ r400_.toInt (-9000000000000000002)) : Int) from (zt_lg_cmp rfl rfl)) rfl).mpr k))
                                refine zJ_LAW_errors_461 rfl rfl rfl rfl rfl rfl h_Q h
                              · have h := h.2 ((zt_eq (show (((lg_cmp r400_ (-9000000000000000002)) : Int32)).toInt = ((lg_cmpZ r400_.toInt (-9000000000000000002)) : Int) from (zt_lg_cmp rfl rfl)) rfl).mp c5q)
                                refine z_LAW_set rfl rfl rfl (fun r410_ v415_ h => ?_) h
                                refine ⟨fun c4q => ?_, fun c4q => ?_⟩
                                · have h := h.1 (fun k => c4q ((zt_eq (show (((lg_cmp r410_ (-9000000000000000002)) : Int32)).toInt = ((lg_cmpZ r410_.toInt (-9000000000000000002)) : Int) from (zt_lg_cmp rfl rfl)) rfl).mpr k))
                                  refine zJ_LAW_errors_461 rfl rfl rfl rfl rfl rfl h_Q h
                                · have h := h.2 ((zt_eq (show (((lg_cmp r410_ (-9000000000000000002)) : Int32)).toInt = ((lg_cmpZ r410_.toInt (-9000000000000000002)) : Int) from (zt_lg_cmp rfl rfl)) rfl).mp c4q)
                                  refine z_LAW_set rfl rfl rfl (fun r420_ v425_ h => ?_) h
                                  refine ⟨fun c3q => ?_, fun c3q => ?_⟩
                                  · have h := h.1 (fun k => c3q ((zt_eq (show (((lg_cmp r420_ (-9000000000000000002)) : Int32)).toInt = ((lg_cmpZ r420_.toInt (-9000000000000000002)) : Int) from (zt_lg_cmp rfl rfl)) rfl).mpr k))
                                    refine zJ_LAW_errors_461 rfl rfl rfl rfl rfl rfl h_Q h
                                  · have h := h.2 ((zt_eq (show (((lg_cmp r420_ (-9000000000000000002)) : Int32)).toInt = ((lg_cmpZ r420_.toInt (-9000000000000000002)) : Int) from (zt_lg_cmp rfl rfl)) rfl).mp c3q)
                                    refine z_LAW_set rfl rfl rfl (fun r430_ v435_ h => ?_) h
                                    refine ⟨fun c2q => ?_, fun c2q => ?_⟩
                                    · have h := h.1 (fun k => c2q ((zt_eq (show (((lg_cmp r430_ (-9000000000000000002)) : Int32)).toInt = ((lg_cmpZ r430_.toInt (-9000000000000000002)) : Int) from (zt_lg_cmp rfl rfl)) rfl).mpr k))
                                      refine zJ_LAW_errors_461 rfl rfl rfl rfl rfl rfl h_Q h
                                    · have h := h.2 ((zt_eq (show (((lg_cmp r430_ (-9000000000000000002)) : Int32)).toInt = ((lg_cmpZ r430_.toInt (-9000000000000000002)) : Int) from (zt_lg_cmp rfl rfl)) rfl).mp c2q)
                                      refine z_LAW_set rfl rfl rfl (fun r440_ v445_ h => ?_) h
                                      refine ⟨fun c1q => ?_, fun c1q => ?_⟩
                                      · have h := h.1 (fun k => c1q ((zt_eq (show (((lg_cmp r440_ (-9000000000000000002)) : Int32)).toInt = ((lg_cmpZ r440_.toInt (-9000000000000000002)) : Int) from (zt_lg_cmp rfl rfl)) rfl).mpr k))
                                        refine zJ_LAW_errors_461 rfl rfl rfl rfl rfl rfl h_Q h
                                      · have h := h.2 ((zt_eq (show (((lg_cmp r440_ (-9000000000000000002)) : Int32)).toInt = ((lg_cmpZ r440_.toInt (-9000000000000000002)) : Int) from (zt_lg_cmp rfl rfl)) rfl).mp c1q)
                                        refine zJ_LAW_errors_462 rfl rfl rfl rfl rfl rfl rfl h_Q h
def ZJ_LAW_errors_69 (y1 : Int) (y3 : Int) (y4 : Int) (y5 : Int) (u0 : Int) (v0 : TZ) (Q : (Int → TZ → Prop)) : Prop := (Z_LAW_about (-1) v0 (fun r23_ => ((¬ (lg_cmpZ r23_ (-9000000000000000002)) = 0 → (ZJ_LAW_errors_461 y1 y3 y4 y5 u0 v0 Q)) ∧ ((lg_cmpZ r23_ (-9000000000000000002)) = 0 → (Z_LAW_about 12 v0 (fun r240_ => ((¬ (lg_cmpZ r240_ (-9000000000000000002)) = 0 → (ZJ_LAW_errors_461 y1 y3 y4 y5 u0 v0 Q)) ∧ ((lg_cmpZ r240_ (-9000000000000000002)) = 0 → zin (y3 - 1) ∧ (Z_LAW_rowOf (y3 - 1) 6 v0 (fun r246_ => ((¬ (lg_cmpZ r246_ (-9000000000000000001)) = 0 → (ZJ_LAW_errors_461 y1 y3 y4 y5 u0 v0 Q)) ∧ ((lg_cmpZ r246_ (-9000000000000000001)) = 0 → (Z_LAW_rowOf y4 0 v0 (fun r252_ => ((¬ (lg_cmpZ r252_ (-9000000000000000001)) = 0 → (ZJ_LAW_errors_461 y1 y3 y4 y5 u0 v0 Q)) ∧ ((lg_cmpZ r252_ (-9000000000000000001)) = 0 → (Z_LAW_about 2 v0 (fun r258_ => (Z_LAW_segmentOf (wi r258_) 6 v0 (fun r263_ => ((¬ (lg_cmpZ r263_ (-9000000000000000001)) = 0 → (ZJ_LAW_errors_461 y1 y3 y4 y5 u0 v0 Q)) ∧ ((lg_cmpZ r263_ (-9000000000000000001)) = 0 → (Z_LAW_segmentOf (-1) 0 v0 (fun r269_ => ((¬ (lg_cmpZ r269_ (-9000000000000000001)) = 0 → (ZJ_LAW_errors_461 y1 y3 y4 y5 u0 v0 Q)) ∧ ((lg_cmpZ r269_ (-9000000000000000001)) = 0 → ((y4 = y3 → (ZJ_LAW_errors_192 y1 y3 y4 y5 u0 v0 Q)) ∧ (¬ y4 = y3 → (Z_LAW_rowOf y3 6 v0 (fun r450_ => ((¬ (lg_cmpZ r450_ (-9000000000000000002)) = 0 → (ZJ_LAW_errors_461 y1 y3 y4 y5 u0 v0 Q)) ∧ ((lg_cmpZ r450_ (-9000000000000000002)) = 0 → (Z_LAW_segmentOf 0 6 v0 (fun r456_ => ((¬ (lg_cmpZ r456_ (-9000000000000000002)) = 0 → (ZJ_LAW_errors_461 y1 y3 y4 y5 u0 v0 Q)) ∧ ((lg_cmpZ r456_ (-9000000000000000002)) = 0 → (ZJ_LAW_errors_192 y1 y3 y4 y5 u0 v0 Q)))))))))))))))))))))))))))))))))))))
set_option maxRecDepth 100000 in
theorem zJ_LAW_errors_69 {y1 : Int64} {y1z : Int} {y3 : Int32} {y3z : Int} {y4 : Int32} {y4z : Int} {y5 : Int32} {y5z : Int} {u0 : Int32} {u0z : Int} {v0 : TT} {v0z : TZ}  {Q : Int32 → TT → Prop} {Qz : (Int → TZ → Prop)} (e_y1 : y1.toInt = y1z) (e_y3 : y3.toInt = y3z) (e_y4 : y4.toInt = y4z) (e_y5 : y5.toInt = y5z) (e_u0 : u0.toInt = u0z) (e_v0 : (aT v0) = v0z) (h_Q : ∀ (a0 : Int32) (a1 : TT), Qz a0.toInt (aT a1) → Q a0 a1) (h : ZJ_LAW_errors_69 y1z y3z y4z y5z u0z v0z Qz) : PJ_LAW_errors_69 y1 y3 y4 y5 u0 v0 Q := by
  subst e_y1
  subst e_y3
  subst e_y4
  subst e_y5
  subst e_u0
  subst e_v0
  unfold ZJ_LAW_errors_69 at h
  unfold PJ_LAW_errors_69
  refine z_LAW_about rfl rfl (fun r23_ h => ?_) h
  refine ⟨fun c10q => ?_, fun c10q => ?_⟩
  · have h := h.1 (fun k => c10q ((zt_eq (show (((lg_cmp r23_ (-9000000000000000002)) : Int32)).toInt = ((lg_cmpZ r23_.toInt (-9000000000000000002)) : Int) from (zt_lg_cmp rfl rfl)) rfl).mpr k))
    refine zJ_LAW_errors_461 rfl rfl rfl rfl rfl rfl h_Q h
  · have h := h.2 ((zt_eq (show (((lg_cmp r23_ (-9000000000000000002)) : Int32)).toInt = ((lg_cmpZ r23_.toInt (-9000000000000000002)) : Int) from (zt_lg_cmp rfl rfl)) rfl).mp c10q)
    refine z_LAW_about rfl rfl (fun r240_ h => ?_) h
    refine ⟨fun c9q => ?_, fun c9q => ?_⟩
    · have h := h.1 (fun k => c9q ((zt_eq (show (((lg_cmp r240_ (-9000000000000000002)) : Int32)).toInt = ((lg_cmpZ r240_.toInt (-9000000000000000002)) : Int) from (zt_lg_cmp rfl rfl)) rfl).mpr k))
      refine zJ_LAW_errors_461 rfl rfl rfl rfl rfl rfl h_Q h
    · have h := h.2 ((zt_eq (show (((lg_cmp r240_ (-9000000000000000002)) : Int32)).toInt = ((lg_cmpZ r240_.toInt (-9000000000000000002)) : Int) from (zt_lg_cmp rfl rfl)) rfl).mp c9q)
      obtain ⟨o1q, h⟩ := h
      refine z_LAW_rowOf (show (((y3 - 1) : Int32)).toInt = ((y3.toInt - 1) : Int) from (zt_sub rfl rfl o1q)) rfl rfl (fun r246_ h => ?_) h
      refine ⟨fun c8q => ?_, fun c8q => ?_⟩
      · have h := h.1 (fun k => c8q ((zt_eq (show (((lg_cmp r246_ (-9000000000000000001)) : Int32)).toInt = ((lg_cmpZ r246_.toInt (-9000000000000000001)) : Int) from (zt_lg_cmp rfl rfl)) rfl).mpr k))
        refine zJ_LAW_errors_461 rfl rfl rfl rfl rfl rfl h_Q h
      · have h := h.2 ((zt_eq (show (((lg_cmp r246_ (-9000000000000000001)) : Int32)).toInt = ((lg_cmpZ r246_.toInt (-9000000000000000001)) : Int) from (zt_lg_cmp rfl rfl)) rfl).mp c8q)
        refine z_LAW_rowOf rfl rfl rfl (fun r252_ h => ?_) h
        refine ⟨fun c7q => ?_, fun c7q => ?_⟩
        · have h := h.1 (fun k => c7q ((zt_eq (show (((lg_cmp r252_ (-9000000000000000001)) : Int32)).toInt = ((lg_cmpZ r252_.toInt (-9000000000000000001)) : Int) from (zt_lg_cmp rfl rfl)) rfl).mpr k))
          refine zJ_LAW_errors_461 rfl rfl rfl rfl rfl rfl h_Q h
        · have h := h.2 ((zt_eq (show (((lg_cmp r252_ (-9000000000000000001)) : Int32)).toInt = ((lg_cmpZ r252_.toInt (-9000000000000000001)) : Int) from (zt_lg_cmp rfl rfl)) rfl).mp c7q)
          refine z_LAW_about rfl rfl (fun r258_ h => ?_) h
          refine z_LAW_segmentOf (show (((Int64.toInt32 r258_) : Int32)).toInt = ((wi r258_.toInt) : Int) from (zt_l2i rfl)) rfl rfl (fun r263_ h => ?_) h
          refine ⟨fun c6q => ?_, fun c6q => ?_⟩
          · have h := h.1 (fun k => c6q ((zt_eq (show (((lg_cmp r263_ (-9000000000000000001)) : Int32)).toInt = ((lg_cmpZ r263_.toInt (-9000000000000000001)) : Int) from (zt_lg_cmp rfl rfl)) rfl).mpr k))
            refine zJ_LAW_errors_461 rfl rfl rfl rfl rfl rfl h_Q h
          · have h := h.2 ((zt_eq (show (((lg_cmp r263_ (-9000000000000000001)) : Int32)).toInt = ((lg_cmpZ r263_.toInt (-9000000000000000001)) : Int) from (zt_lg_cmp rfl rfl)) rfl).mp c6q)
            refine z_LAW_segmentOf rfl rfl rfl (fun r269_ h => ?_) h
            refine ⟨fun c5q => ?_, fun c5q => ?_⟩
            · have h := h.1 (fun k => c5q ((zt_eq (show (((lg_cmp r269_ (-9000000000000000001)) : Int32)).toInt = ((lg_cmpZ r269_.toInt (-9000000000000000001)) : Int) from (zt_lg_cmp rfl rfl)) rfl).mpr k))
              refine zJ_LAW_errors_461 rfl rfl rfl rfl rfl rfl h_Q h
            · have h := h.2 ((zt_eq (show (((lg_cmp r269_ (-9000000000000000001)) : Int32)).toInt = ((lg_cmpZ r269_.toInt (-9000000000000000001)) : Int) from (zt_lg_cmp rfl rfl)) rfl).mp c5q)
              refine ⟨fun c4q => ?_, fun c4q => ?_⟩
              · have h := h.1 ((zt_eq rfl rfl).mp c4q)
                refine zJ_LAW_errors_192 rfl rfl rfl rfl rfl rfl h_Q h
              · have h := h.2 (fun k => c4q ((zt_eq rfl rfl).mpr k))
                refine z_LAW_rowOf rfl rfl rfl (fun r450_ h => ?_) h
                refine ⟨fun c3q => ?_, fun c3q => ?_⟩
                · have h := h.1 (fun k => c3q ((zt_eq (show (((lg_cmp r450_ (-9000000000000000002)) : Int32)).toInt = ((lg_cmpZ r450_.toInt (-9000000000000000002)) : Int) from (zt_lg_cmp rfl rfl)) rfl).mpr k))
                  refine zJ_LAW_errors_461 rfl rfl rfl rfl rfl rfl h_Q h
                · have h := h.2 ((zt_eq (show (((lg_cmp r450_ (-9000000000000000002)) : Int32)).toInt = ((lg_cmpZ r450_.toInt (-9000000000000000002)) : Int) from (zt_lg_cmp rfl rfl)) rfl).mp c3q)
                  refine z_LAW_segmentOf rfl rfl rfl (fun r456_ h => ?_) h
                  refine ⟨fun c2q => ?_, fun c2q => ?_⟩
                  · have h := h.1 (fun k => c2q ((zt_eq (show (((lg_cmp r456_ (-9000000000000000002)) : Int32)).toInt = ((lg_cmpZ r456_.toInt (-9000000000000000002)) : Int) from (zt_lg_cmp rfl rfl)) rfl).mpr k))
                    refine zJ_LAW_errors_461 rfl rfl rfl rfl rfl rfl h_Q h
                  · have h := h.2 ((zt_eq (show (((lg_cmp r456_ (-9000000000000000002)) : Int32)).toInt = ((lg_cmpZ r456_.toInt (-9000000000000000002)) : Int) from (zt_lg_cmp rfl rfl)) rfl).mp c2q)
                    refine zJ_LAW_errors_192 rfl rfl rfl rfl rfl rfl h_Q h
def ZJ_LAW_errors_50 (y1 : Int) (y3 : Int) (y4 : Int) (y5 : Int) (v0 : TZ) (Q : (Int → TZ → Prop)) : Prop := (Z_LAW_readerOf y5 0 v0 (fun r17_ => ((¬ (lg_cmpZ r17_ (-9000000000000000001)) = 0 → (ZJ_LAW_errors_69 y1 y3 y4 y5 0 v0 Q)) ∧ ((lg_cmpZ r17_ (-9000000000000000001)) = 0 → (ZJ_LAW_errors_69 y1 y3 y4 y5 1 v0 Q)))))
set_option maxRecDepth 100000 in
theorem zJ_LAW_errors_50 {y1 : Int64} {y1z : Int} {y3 : Int32} {y3z : Int} {y4 : Int32} {y4z : Int} {y5 : Int32} {y5z : Int} {v0 : TT} {v0z : TZ}  {Q : Int32 → TT → Prop} {Qz : (Int → TZ → Prop)} (e_y1 : y1.toInt = y1z) (e_y3 : y3.toInt = y3z) (e_y4 : y4.toInt = y4z) (e_y5 : y5.toInt = y5z) (e_v0 : (aT v0) = v0z) (h_Q : ∀ (a0 : Int32) (a1 : TT), Qz a0.toInt (aT a1) → Q a0 a1) (h : ZJ_LAW_errors_50 y1z y3z y4z y5z v0z Qz) : PJ_LAW_errors_50 y1 y3 y4 y5 v0 Q := by
  subst e_y1
  subst e_y3
  subst e_y4
  subst e_y5
  subst e_v0
  unfold ZJ_LAW_errors_50 at h
  unfold PJ_LAW_errors_50
  refine z_LAW_readerOf rfl rfl rfl (fun r17_ h => ?_) h
  refine ⟨fun c1q => ?_, fun c1q => ?_⟩
  · have h := h.1 (fun k => c1q ((zt_eq (show (((lg_cmp r17_ (-9000000000000000001)) : Int32)).toInt = ((lg_cmpZ r17_.toInt (-9000000000000000001)) : Int) from (zt_lg_cmp rfl rfl)) rfl).mpr k))
    refine zJ_LAW_errors_69 rfl rfl rfl rfl rfl rfl h_Q h
  · have h := h.2 ((zt_eq (show (((lg_cmp r17_ (-9000000000000000001)) : Int32)).toInt = ((lg_cmpZ r17_.toInt (-9000000000000000001)) : Int) from (zt_lg_cmp rfl rfl)) rfl).mp c1q)
    refine zJ_LAW_errors_69 rfl rfl rfl rfl rfl rfl h_Q h
def ZL_LAW_errors_23 : Nat → Int → Int → Int → Int → TZ → (Int → TZ → Prop) → Prop
  | 0, _, _, _, _, _, _ => False
  | n + 1, y1, y3, y4, y5, v0, Q => ((7 ≤ y5 → (ZJ_LAW_errors_50 y1 y3 y4 y5 v0 Q)) ∧ (¬ 7 ≤ y5 → (Z_LAW_readerOf y5 0 v0 (fun r462_ => (((lg_cmpZ r462_ (-9000000000000000001)) = 0 → (ZJ_LAW_errors_50 y1 y3 y4 y5 v0 Q)) ∧ (¬ (lg_cmpZ r462_ (-9000000000000000001)) = 0 → zin (y5 + 1) ∧ (ZL_LAW_errors_23 n y1 y3 y4 (y5 + 1) v0 Q)))))))
set_option maxRecDepth 100000 in
theorem zL_LAW_errors_23 (n : Nat) : ∀ {y1 : Int64} {y1z : Int} {y3 : Int32} {y3z : Int} {y4 : Int32} {y4z : Int} {y5 : Int32} {y5z : Int} {v0 : TT} {v0z : TZ}  {Q : Int32 → TT → Prop} {Qz : (Int → TZ → Prop)} (e_y1 : y1.toInt = y1z) (e_y3 : y3.toInt = y3z) (e_y4 : y4.toInt = y4z) (e_y5 : y5.toInt = y5z) (e_v0 : (aT v0) = v0z) (h_Q : ∀ (a0 : Int32) (a1 : TT), Qz a0.toInt (aT a1) → Q a0 a1) (h : ZL_LAW_errors_23 n y1z y3z y4z y5z v0z Qz), PL_LAW_errors_23 n y1 y3 y4 y5 v0 Q := by
  induction n with
  | zero =>
    intro y1 y1z y3 y3z y4 y4z y5 y5z v0 v0z Q Qz e_y1 e_y3 e_y4 e_y5 e_v0 h_Q h
    exact (h : False).elim
  | succ n ih =>
    intro y1 y1z y3 y3z y4 y4z y5 y5z v0 v0z Q Qz e_y1 e_y3 e_y4 e_y5 e_v0 h_Q h
    subst e_y1
    subst e_y3
    subst e_y4
    subst e_y5
    subst e_v0
    rw [ZL_LAW_errors_23] at h
    rw [PL_LAW_errors_23]
    refine ⟨fun c3q => ?_, fun c3q => ?_⟩
    · have h := h.1 ((zt_le rfl rfl).mp c3q)
      refine zJ_LAW_errors_50 rfl rfl rfl rfl rfl h_Q h
    · have h := h.2 (fun k => c3q ((zt_le rfl rfl).mpr k))
      refine z_LAW_readerOf rfl rfl rfl (fun r462_ h => ?_) h
      refine ⟨fun c2q => ?_, fun c2q => ?_⟩
      · have h := h.1 ((zt_eq (show (((lg_cmp r462_ (-9000000000000000001)) : Int32)).toInt = ((lg_cmpZ r462_.toInt (-9000000000000000001)) : Int) from (zt_lg_cmp rfl rfl)) rfl).mp c2q)
        refine zJ_LAW_errors_50 rfl rfl rfl rfl rfl h_Q h
      · have h := h.2 (fun k => c2q ((zt_eq (show (((lg_cmp r462_ (-9000000000000000001)) : Int32)).toInt = ((lg_cmpZ r462_.toInt (-9000000000000000001)) : Int) from (zt_lg_cmp rfl rfl)) rfl).mpr k))
        obtain ⟨o1q, h⟩ := h
        refine ih rfl rfl rfl (show (((y5 + 1) : Int32)).toInt = ((y5.toInt + 1) : Int) from (zt_add rfl rfl o1q)) rfl h_Q h
def Z_LAW_errors (v0 : TZ) (Q : (Int → TZ → Prop)) : Prop := (Z_LAW_now v0 (fun r1_ => (Z_LAW_about 1 v0 (fun r6_ => (Z_LAW_about 0 v0 (fun r11_ => (∃ n468_, n468_ ≤ 8 ∧ ((ZL_LAW_errors_23 n468_ r1_ (wi r6_) (wi r11_) 0 v0 Q)))))))))
set_option maxRecDepth 100000 in
theorem z_LAW_errors {v0 : TT} {v0z : TZ}  {Q : Int32 → TT → Prop} {Qz : (Int → TZ → Prop)} (e_v0 : (aT v0) = v0z) (h_Q : ∀ (a0 : Int32) (a1 : TT), Qz a0.toInt (aT a1) → Q a0 a1) (h : Z_LAW_errors v0z Qz) : P_LAW_errors v0 Q := by
  subst e_v0
  unfold Z_LAW_errors at h
  unfold P_LAW_errors
  refine z_LAW_now rfl (fun r1_ h => ?_) h
  refine z_LAW_about rfl rfl (fun r6_ h => ?_) h
  refine z_LAW_about rfl rfl (fun r11_ h => ?_) h
  obtain ⟨n468_, h⟩ := h
  refine ⟨n468_, ?_⟩
  obtain ⟨b1q, h⟩ := h
  refine ⟨b1q, ?_⟩
  refine zL_LAW_errors_23 n468_ rfl (show (((Int64.toInt32 r6_) : Int32)).toInt = ((wi r6_.toInt) : Int) from (zt_l2i rfl)) (show (((Int64.toInt32 r11_) : Int32)).toInt = ((wi r11_.toInt) : Int) from (zt_l2i rfl)) rfl rfl h_Q h

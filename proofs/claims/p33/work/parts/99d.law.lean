/-! THE CLAIM OUT OF ONE WALK OF THE LAW'S BODY. Your part is whole_start (and what it stands on); all else here is the same for every law, but numbers. -/
def R_law : String := "TrimmedLogLaw"
def lw_P (b : Addr) (xs : List Int32) (args : Array Value) (s : State) : Prop := args = #[.ref b] ∧ s.IntsAt b xs ∧ xs.length ≤ 260 ∧ (Jvm.Cond.and given_1 narrow_1).before args s = true
def lw_Q (_ : Array Value) (s : State) (o : Outcome) (t : State) : Prop := o = .returned (some (.int 1)) ∧ Framed s o t [] 600130 7301080
def lw_Z (below : List Frame) (a : Array Value) (s : State) : State → Prop := fun t => ∃ o, t.status = .running ∧ Ended t below o ∧ lw_Q a s o t
/-- the law's own end, with 1 on the stack, nothing written that was there before, its room as the claim has it -/
theorem lw_ret {p : Program} {l : Launch} {e : Env} {s : State} {m : MethodId} {below : List Frame} {meth : Method} {c : Code} {b : Nat} (hx : p.tables.exec = Jvm.exec) (hb : c.code = code) (hr : meth.sig.returnType = ret) (hlocks : meth.locks = false) {pc : Nat} {H : Heap} {ls : Array Slot} (hdg : decode code pc = .ok (.ireturn, 1)) : W p l e room_1 s m #[Value.ref b] below meth c H [] 600130 7301080 (lw_Z below #[Value.ref b] s) (F0 m pc ls [.int 1]) := by
  intro T hT X
  obtain ⟨fs, hret, hrun, hended, hW, hframe⟩ := X.leave (v := some (.int 1)) (hlocks := hlocks) (fun h => by rw [hr] at h; cases h)
  have hmeth' : T.vm.method? m = some meth := X.method'
  refine ⟨T.setFrames fs, ?_, .returned (some (.int 1)), hrun, hended, rfl, ⟨_, rfl⟩, hW, hframe⟩
  jvm_step X.here [X.here.top, hx, hb, hdg, hmeth', hr, ret, narrow_b1]
  (try refine ⟨rfl, ?_⟩); (try refine ⟨rfl, ?_⟩)
  first | (intro acts; rw [hret _ acts rfl rfl rfl]) | rw [hret _ _ rfl rfl rfl]
  exact Steps.refl _
/-- what holds at the law's entry: the machine, the code, the tables' words (any of lw_tbl by 'hts w (by decide +kernel)'), the script of L ints xs at the cell b, what the Statement gives of the start (any of its parts by flat_of_before) -/
def lw_At (p : Program) (s : State) (m : MethodId) (meth : Method) (c : Code) (b L : Nat) (xs : Nat → Int32) : Prop :=
  p.tables.exec = Jvm.exec ∧ c.code = code ∧ meth.sig.returnType = ret ∧ c.maxLocals = 7 ∧ s.vm.findClass R_law = some m.cls ∧ (∀ w ∈ lw_tbl, w.before #[Value.ref b] s = true) ∧ va_X b L xs s s.heap ∧ b < s.heap.size ∧ meth.locks = false ∧ (Jvm.Cond.and given_1 narrow_1).before #[Value.ref b] s = true

theorem lw_end {p : Program} {l : Launch} {e : Env} {s : State} {m : MethodId} {below : List Frame} {meth : Method} {c : Code} {D : zD} {B : Nat} {sa : Nat → Nat} {b : Nat} {k n z : Nat} {L : zL} {G : zG} (O : zO p l s m #[.ref b] c D B sa 7 cL_law RL) (hBs : s.heap.size ≤ B) (hr : meth.sig.returnType = ret) (hlk : meth.locks = false) (hk : k ≤ 600130) (hn : n ≤ 7301080) : zT p l e room_1 s m #[.ref b] below meth c (lw_Z below #[.ref b] s) D B 7 k n 291 [.int 1] L z G := fun H locs ls hR hS hl =>
  va_forget (fun q hq => Nat.le_trans hBs (hS.2.2 q hq)) (W.widen hk hn (lw_ret O.1 O.2.1 hr hlk dL_law_291))
theorem lw_mod {i : Nat} {c : Int32} {n : Int} (hi : i ≤ 40) (hc : c.toInt = n) (h1 : 0 < n) (h2 : n < 100) : (zrem (Int32.ofNat i) c).toInt = (i : Int) % n := by
  have e : (Int32.ofNat i).toInt = i := Int32.toInt_ofNat_of_lt (by omega)
  rw [zt_rem e hc (by omega) (by omega)]
  exact Int.tmod_eq_emod_of_nonneg (by omega)
set_option maxRecDepth 100000 in
theorem lw_loop {p : Program} {l : Launch} {e : Env} {s : State} {m : MethodId} {below : List Frame} {meth : Method} {c : Code} {D : zD} {B : Nat} {sa : Nat → Nat} {b N : Nat} {xs : Nat → Int32} (hfl : l.stackTraces = false) (O : zO p l s m #[.ref b] c D B sa 7 cL_law RL) (hBs : s.heap.size ≤ B) (hr : meth.sig.returnType = ret) (hlk : meth.locks = false) (hN : N ≤ 260) (hX : va_X b N xs s s.heap) (hb : b < s.heap.size) (hbB : ¬ B ≤ b) :
    ∀ (f i k n z : Nat) (v w : TT) (G : zG), i + f = 40 → k ≤ 84200 + 1700 * (i) + 82800 * ((i + 4) / 8) → n ≤ 42700 + 6 * (83200 + 1700 * (i) + 82800 * ((i + 4) / 8)) → SimP (7000 * (i : Int)) v w → TA B v G → TA (B + 475) w G → zT p l e room_1 s m #[.ref b] below meth c (lw_Z below #[.ref b] s) D B 7 k n 52 [] [some (.ref b), some (.ref B), some (.ref (B + 475)), some (.int 1), some (.int (Int32.ofNat i)), none, none] z G := by
  intro f
  induction f with
  | zero =>
    intro i k n z v w G hf hk hn hs tp tq
    have e : i = 40 := by omega
    subst e
    refine z_iload O dL_law_52 rfl ?_
    refine z_bipush (v := 40) O dL_law_54 (by decide) ?_
    refine z_icmp_ge (tgt := 271) O dL_law_56 (by decide) (fun _ => ?_) (fun q => absurd (by decide) q)
    refine z_iload_n O dL_law_271 rfl rfl ?_
    refine z_if_eq (tgt := 290) O dL_law_272 (by decide) (fun c => absurd c (by decide)) (fun _ => ?_)
    refine z_aload_n O dL_law_275 rfl rfl ?_
    refine z_aload_n O dL_law_276 rfl rfl ?_
    refine z_sipush (v := 10831) O dL_law_277 (by decide) ?_
    refine z_callSi (As := [.ref B, .ref (B + 475), .int 10831]) (st := []) O (s_LAW_alike hfl tp tq (by omega) (ka_alike hs (by omega) (by decide))) wy_L_alike wl_RL_210 dL_law_280 rfl rfl ⟨(Nat.le_of_ble_eq_true rfl), (Nat.le_of_ble_eq_true rfl)⟩ (Nat.le_of_ble_eq_true rfl) ⟨by show _ ≤ 600130; omega, by show _ ≤ 7301080; omega⟩ (fun r_v1 z_v1 G_v1 hq_v1 => ?_)
    obtain ⟨v1, w1, G8_v1, a1_v1, a2_v1, a3_v1, a4_v1, hr_v1, hs_v1⟩ := hq_v1
    subst hr_v1
    have p_v1 := TA.fr a1_v1 a4_v1 (by omega)
    refine z_if_eq (tgt := 290) O dL_law_283 (by decide) (fun c => absurd c (by decide)) (fun _ => ?_)
    refine z_iconst (v := 1) O dL_law_286 (by decide) ?_
    refine z_goto (tgt := 291) O dL_law_287 (by decide) ?_
    exact lw_end O hBs hr hlk (by omega) (by omega)
  | succ f ih =>
    intro i k n z v w G hf hk hn hs tp tq
    have hi : i ≤ 39 := by omega
    have hi' : (Int32.ofNat i).toInt = i := Int32.toInt_ofNat_of_lt (by omega)
    have e2 : (2 * Int32.ofNat i).toInt = 2 * (i : Int) := zt_mul (show (2 : Int32).toInt = 2 from rfl) hi' (by show -2147483648 ≤ 2 * (i : Int) ∧ 2 * (i : Int) < 2147483648; omega)
    have e21 : (2 * Int32.ofNat i + 1).toInt = 2 * (i : Int) + 1 := zt_add e2 (show (1 : Int32).toInt = 1 from rfl) (by show -2147483648 ≤ 2 * (i : Int) + 1 ∧ 2 * (i : Int) + 1 < 2147483648; omega)
    refine z_iload O dL_law_52 rfl ?_
    refine z_bipush (v := 40) O dL_law_54 (by decide) ?_
    refine z_icmp_ge (tgt := 271) O dL_law_56 (by decide) (fun q => absurd ((zt_le (show (40 : Int32).toInt = 40 from rfl) hi').mp q) (by omega)) (fun _ => ?_)
    refine z_iload_n O dL_law_59 rfl rfl ?_
    refine z_if_eq (tgt := 271) O dL_law_60 (by decide) (fun c => absurd c (by decide)) (fun _ => ?_)
    refine z_aload_n O dL_law_63 rfl rfl ?_
    refine z_iconst (v := 2) O dL_law_64 (by decide) ?_
    refine z_iload O dL_law_65 rfl ?_
    refine z_imul O dL_law_67 ?_
    refine z_callSd (As := [.ref b, .int (2 * Int32.ofNat i)]) (st := []) O hX hb hbB (s_LAW_draw hfl hbB hN (by rw [e2]; omega)) wy_L_draw wl_RL_206 dL_law_68 rfl rfl ⟨(Nat.le_of_ble_eq_true rfl), (Nat.le_of_ble_eq_true rfl)⟩ (Nat.le_of_ble_eq_true rfl) ⟨by show _ ≤ 600130; omega, by show _ ≤ 7301080; omega⟩ (fun x z_x G_x hq_x => ?_)
    obtain ⟨rfl, rfl, hx⟩ := hq_x
    refine z_istore (L' := [some (.ref b), some (.ref B), some (.ref (B + 475)), some (.int 1), some (.int (Int32.ofNat i)), some (.int x), none]) O dL_law_71 (by decide) rfl ?_
    refine z_aload_n O dL_law_73 rfl rfl ?_
    refine z_iconst (v := 2) O dL_law_74 (by decide) ?_
    refine z_iload O dL_law_75 rfl ?_
    refine z_imul O dL_law_77 ?_
    refine z_iconst (v := 1) O dL_law_78 (by decide) ?_
    refine z_iadd O dL_law_79 ?_
    refine z_callSd (As := [.ref b, .int (2 * Int32.ofNat i + 1)]) (st := []) O hX hb hbB (s_LAW_draw hfl hbB hN (by rw [e21]; omega)) wy_L_draw wl_RL_206 dL_law_80 rfl rfl ⟨(Nat.le_of_ble_eq_true rfl), (Nat.le_of_ble_eq_true rfl)⟩ (Nat.le_of_ble_eq_true rfl) ⟨by show _ ≤ 600130; omega, by show _ ≤ 7301080; omega⟩ (fun y z_y G_y hq_y => ?_)
    obtain ⟨rfl, rfl, hy⟩ := hq_y
    refine z_istore (L' := [some (.ref b), some (.ref B), some (.ref (B + 475)), some (.int 1), some (.int (Int32.ofNat i)), some (.int x), some (.int y)]) O dL_law_83 (by decide) rfl ?_
    have h265 : ∀ (k' n' z' : Nat) (v' w' : TT) (G' : zG), k' ≤ 84200 + 1700 * (i + 1) + 82800 * ((i + 1 + 4) / 8) → n' ≤ 42700 + 6 * (83200 + 1700 * (i + 1) + 82800 * ((i + 1 + 4) / 8)) → SimP (7000 * ((i : Int) + 1)) v' w' → TA B v' G' → TA (B + 475) w' G' → zT p l e room_1 s m #[.ref b] below meth c (lw_Z below #[.ref b] s) D B 7 k' n' 265 [] [some (.ref b), some (.ref B), some (.ref (B + 475)), some (.int 1), some (.int (Int32.ofNat i)), some (.int x), some (.int y)] z' G' := by
      intro k' n' z' v' w' G' hk' hn' hs' tp' tq'
      have e4 : Int32.ofNat i + Int32.ofInt 1 = Int32.ofNat (i + 1) := by rw [Int32.ofNat_add]; rfl
      refine z_iinc (v := Int32.ofNat (i + 1)) (L' := [some (.ref b), some (.ref B), some (.ref (B + 475)), some (.int 1), some (.int (Int32.ofNat (i + 1))), some (.int x), some (.int y)]) O dL_law_265 rfl e4 (by decide) rfl ?_
      refine z_goto (tgt := 52) O dL_law_268 (by decide) ?_
      have e5 : (((i + 1 : Nat)) : Int) = (i : Int) + 1 := by omega
      rw [← e5] at hs'
      exact z_subL (L' := [some (.ref b), some (.ref B), some (.ref (B + 475)), some (.int 1), some (.int (Int32.ofNat (i + 1))), none, none]) (zLe.sub (And.intro rfl (And.intro rfl (And.intro rfl (And.intro rfl (And.intro rfl True.intro)))))) (ih (i + 1) k' n' z' v' w' G' (by omega) hk' hn' hs' tp' tq')
    have h237 : ∀ (k' n' z' : Nat) (v' w' : TT) (G' : zG) (T' : Int), k' + 414 ≤ 84200 + 1700 * (i + 1) + 82800 * ((i + 1 + 4) / 8) → n' + 6 * 414 ≤ 42700 + 6 * (83200 + 1700 * (i + 1) + 82800 * ((i + 1 + 4) / 8)) → T' ≤ 7000 * ((i : Int) + 1) → SimP T' v' w' → TA B v' G' → TA (B + 475) w' G' → zT p l e room_1 s m #[.ref b] below meth c (lw_Z below #[.ref b] s) D B 7 k' n' 237 [] [some (.ref b), some (.ref B), some (.ref (B + 475)), some (.int 1), some (.int (Int32.ofNat i)), some (.int x), some (.int y)] z' G' := by
      intro k' n' z' v' w' G' T' hk' hn' hT' hs' tp' tq'
      have t0 := hs'.1.1.1.2.1
      refine z_iload_n O dL_law_237 rfl rfl ?_
      refine z_if_eq (tgt := 263) O dL_law_238 (by decide) (fun c => absurd c (by decide)) (fun _ => ?_)
      refine z_iload O dL_law_241 rfl ?_
      refine z_bipush (v := 10) O dL_law_243 (by decide) ?_
      refine z_irem O dL_law_245 (by decide) ?_
      refine z_if_gt (tgt := 259) O dL_law_246 (by decide) (fun c => ?_) (fun c => ?_)
      · refine z_iconst (v := 1) O dL_law_259 (by decide) ?_
        refine z_goto (tgt := 264) O dL_law_260 (by decide) ?_
        refine z_istore_n (L' := [some (.ref b), some (.ref B), some (.ref (B + 475)), some (.int 1), some (.int (Int32.ofNat i)), some (.int x), some (.int y)]) O dL_law_264 rfl (by decide) rfl ?_
        exact h265 _ _ _ _ _ _ (by omega) (by omega) (hs'.mono hT' (by omega)) tp' tq'
      · refine z_aload_n O dL_law_249 rfl rfl ?_
        refine z_aload_n O dL_law_250 rfl rfl ?_
        refine z_iload O dL_law_251 rfl ?_
        refine z_callSi (As := [.ref B, .ref (B + 475), .int y]) (st := []) O (s_LAW_alike hfl tp' tq' (by omega) (ka_alike hs' (by omega) hy)) wy_L_alike wl_RL_210 dL_law_253 rfl rfl ⟨(Nat.le_of_ble_eq_true rfl), (Nat.le_of_ble_eq_true rfl)⟩ (Nat.le_of_ble_eq_true rfl) ⟨by show _ ≤ 600130; omega, by show _ ≤ 7301080; omega⟩ (fun r_v1 z_v1 G_v1 hq_v1 => ?_)
        obtain ⟨v1, w1, G8_v1, a1_v1, a2_v1, a3_v1, a4_v1, hr_v1, hs_v1⟩ := hq_v1
        subst hr_v1
        have p_v1 := TA.fr a1_v1 a4_v1 (by omega)
        refine z_if_eq (tgt := 263) O dL_law_256 (by decide) (fun c => absurd c (by decide)) (fun _ => ?_)
        refine z_iconst (v := 1) O dL_law_259 (by decide) ?_
        refine z_goto (tgt := 264) O dL_law_260 (by decide) ?_
        refine z_istore_n (L' := [some (.ref b), some (.ref B), some (.ref (B + 475)), some (.int 1), some (.int (Int32.ofNat i)), some (.int x), some (.int y)]) O dL_law_264 rfl (by decide) rfl ?_
        exact h265 _ _ _ _ _ _ (by omega) (by omega) (hs_v1.mono hT' (by omega)) p_v1 a3_v1
    have h188 : ∀ (k' n' z' : Nat) (v' w' : TT) (G' : zG) (T' : Int), k' + 1464 ≤ 84200 + 1700 * (i + 1) + 82800 * ((i + 1 + 4) / 8) → n' + 6 * 1464 ≤ 42700 + 6 * (83200 + 1700 * (i + 1) + 82800 * ((i + 1 + 4) / 8)) → T' + 891 ≤ 7000 * ((i : Int) + 1) → SimP T' v' w' → TA B v' G' → TA (B + 475) w' G' → zT p l e room_1 s m #[.ref b] below meth c (lw_Z below #[.ref b] s) D B 7 k' n' 188 [] [some (.ref b), some (.ref B), some (.ref (B + 475)), some (.int 1), some (.int (Int32.ofNat i)), some (.int x), some (.int y)] z' G' := by
      intro k' n' z' v' w' G' T' hk' hn' hT' hs' tp' tq'
      have t0 := hs'.1.1.1.2.1
      refine z_iload O dL_law_188 rfl ?_
      refine z_bipush (v := 14) O dL_law_190 (by decide) ?_
      refine z_irem O dL_law_192 (by decide) ?_
      refine z_bipush (v := 13) O dL_law_193 (by decide) ?_
      refine z_icmp_ne (tgt := 237) O dL_law_195 (by decide) (fun c => ?_) (fun c => ?_)
      · exact h237 _ _ _ _ _ _ T' (by omega) (by omega) (by omega) hs' tp' tq'
      · refine z_iload_n O dL_law_198 rfl rfl ?_
        refine z_if_eq (tgt := 235) O dL_law_199 (by decide) (fun c => absurd c (by decide)) (fun _ => ?_)
        refine z_aload_n O dL_law_202 rfl rfl ?_
        refine z_iload O dL_law_203 rfl ?_
        refine z_callSi (As := [.ref (B + 475), .int y]) (st := []) O (s_LAW_follows hfl tq' (kf_follows (by omega) hs' hy)) wy_L_follows wl_RL_230 dL_law_205 rfl rfl ⟨(Nat.le_of_ble_eq_true rfl), (Nat.le_of_ble_eq_true rfl)⟩ (Nat.le_of_ble_eq_true rfl) ⟨by show _ ≤ 600130; omega, by show _ ≤ 7301080; omega⟩ (fun r1 z1 G1 hq1 => ?_)
        obtain ⟨w1, q1, f1, hr1, fr1⟩ := hq1
        subst hr1
        have p1 := TA.fr tp' f1 (by omega)
        refine z_if_eq (tgt := 235) O dL_law_208 (by decide) (fun c => absurd c (by decide)) (fun _ => ?_)
        refine z_aload_n O dL_law_211 rfl rfl ?_
        refine z_iconst (v := 1) O dL_law_212 (by decide) ?_
        refine z_callHl (As := [.ref B, .int 1]) (st := []) O (s_LAW_save hfl p1 (kf_save hs'.1)) wh_L_save wl_RL_170 dL_law_213 rfl rfl ⟨(Nat.le_of_ble_eq_true rfl), (Nat.le_of_ble_eq_true rfl)⟩ (Nat.le_of_ble_eq_true rfl) ⟨by show _ ≤ 600130; omega, by show _ ≤ 7301080; omega⟩ (fun r2 z2 G2 hq2 => ?_)
        obtain ⟨v2, p2, f2, hr2, e2v⟩ := hq2
        have q2 := TA.fr q1 f2 (by omega)
        refine z_lconst (v := 0) O dL_law_216 (by decide) ?_
        refine z_lcmp O dL_law_217 ?_
        refine z_if_lt (tgt := 235) O dL_law_218 (by decide) (fun c => absurd c (lw_nn hr2)) (fun _ => ?_)
        refine z_aload_n O dL_law_221 rfl rfl ?_
        refine z_iconst (v := 1) O dL_law_222 (by decide) ?_
        refine z_callHl (As := [.ref B, .int 1]) (st := []) O (s_LAW_restore hfl p2 (kf_restore hs'.1 e2v)) wh_L_restore wl_RL_172 dL_law_223 rfl rfl ⟨(Nat.le_of_ble_eq_true rfl), (Nat.le_of_ble_eq_true rfl)⟩ (Nat.le_of_ble_eq_true rfl) ⟨by show _ ≤ 600130; omega, by show _ ≤ 7301080; omega⟩ (fun r3 z3 G3 hq3 => ?_)
        obtain ⟨v3, p3, f3, hr3, e3v⟩ := hq3
        have q3 := TA.fr q2 f3 (by omega)
        refine z_lconst (v := 0) O dL_law_226 (by decide) ?_
        refine z_lcmp O dL_law_227 ?_
        refine z_if_lt (tgt := 235) O dL_law_228 (by decide) (fun c => absurd c (lw_nn hr3)) (fun _ => ?_)
        refine z_iconst (v := 1) O dL_law_231 (by decide) ?_
        refine z_goto (tgt := 236) O dL_law_232 (by decide) ?_
        refine z_istore_n (L' := [some (.ref b), some (.ref B), some (.ref (B + 475)), some (.int 1), some (.int (Int32.ofNat i)), some (.int x), some (.int y)]) O dL_law_236 rfl (by decide) rfl ?_
        exact h237 _ _ _ _ _ _ (T' + 891) (by omega) (by omega) (by omega) (kf_end (by omega) hs' fr1 e2v e3v) p3 q3
    refine z_iload O dL_law_85 rfl ?_
    refine z_if_ne (tgt := 129) O dL_law_87 (by decide) (fun c => ?_) (fun c => ?_)
    · have i0 : i ≠ 0 := fun q => c (by rw [q]; rfl)
      refine z_aload_n O dL_law_129 rfl rfl ?_
      refine z_iload O dL_law_130 rfl ?_
      refine z_iload O dL_law_132 rfl ?_
      refine z_callSl (As := [.ref B, .int x, .int y]) (st := []) O (s_LAW_act hfl tp (kc_act (by omega) hs hx hy)) wy_L_act wl_RL_227 dL_law_134 rfl rfl ⟨(Nat.le_of_ble_eq_true rfl), (Nat.le_of_ble_eq_true rfl)⟩ (Nat.le_of_ble_eq_true rfl) ⟨by show _ ≤ 600130; omega, by show _ ≤ 7301080; omega⟩ (fun r1 z1 G1 hq1 => ?_)
      obtain ⟨v1, p1, f1, hq1⟩ := hq1
      have q1 := TA.fr tq f1 (by omega)
      refine z_aload_n O dL_law_137 rfl rfl ?_
      refine z_iload O dL_law_138 rfl ?_
      refine z_iload O dL_law_140 rfl ?_
      refine z_callSl (As := [.ref (B + 475), .int x, .int y]) (st := [.long r1]) O (s_LAW_act hfl q1 hq1) wy_L_act wl_RL_227 dL_law_142 rfl rfl ⟨(Nat.le_of_ble_eq_true rfl), (Nat.le_of_ble_eq_true rfl)⟩ (Nat.le_of_ble_eq_true rfl) ⟨by show _ ≤ 600130; omega, by show _ ≤ 7301080; omega⟩ (fun r2 z2 G2 hq2 => ?_)
      obtain ⟨w2, q2, f2, er, hs2⟩ := hq2
      have p2 := TA.fr p1 f2 (by omega)
      refine z_lcmp O dL_law_145 ?_
      refine z_if_ne (tgt := 153) O dL_law_146 (by decide) (fun c => absurd (lw_cmp0 er) c) (fun _ => ?_)
      refine z_iconst (v := 1) O dL_law_149 (by decide) ?_
      refine z_goto (tgt := 154) O dL_law_150 (by decide) ?_
      refine z_istore_n (L' := [some (.ref b), some (.ref B), some (.ref (B + 475)), some (.int 1), some (.int (Int32.ofNat i)), some (.int x), some (.int y)]) O dL_law_154 rfl (by decide) rfl ?_
      refine z_iload O dL_law_155 rfl ?_
      refine z_bipush (v := 8) O dL_law_157 (by decide) ?_
      refine z_irem O dL_law_159 (by decide) ?_
      refine z_iconst (v := 3) O dL_law_160 (by decide) ?_
      have m8 := lw_mod (i := i) (c := 8) (n := 8) (by omega) rfl (by decide) (by decide)
      refine z_icmp_ne (tgt := 188) O dL_law_161 (by decide) (fun c => ?_) (fun c => ?_)
      · have n3 : i % 8 ≠ 3 := fun q => c (Int32.toInt_inj.mp (by rw [m8]; show (i : Int) % 8 = 3; omega))
        exact h188 _ _ _ _ _ _ (7000 * (i : Int) + 99) (by omega) (by omega) (by omega) hs2 p2 q2
      · have n3 : i % 8 = 3 := by
          have g : (zrem (Int32.ofNat i) 8).toInt = 3 := congrArg Int32.toInt c
          rw [m8] at g
          omega
        refine z_iload_n O dL_law_164 rfl rfl ?_
        refine z_if_eq (tgt := 186) O dL_law_165 (by decide) (fun c => absurd c (by decide)) (fun _ => ?_)
        refine z_aload_n O dL_law_168 rfl rfl ?_
        refine z_callSi (As := [.ref (B + 475)]) (st := []) O (s_LAW_errors hfl q2 (ke_right hs2 (by omega))) wy_L_errors wl_RL_214 dL_law_169 rfl rfl ⟨(Nat.le_of_ble_eq_true rfl), (Nat.le_of_ble_eq_true rfl)⟩ (Nat.le_of_ble_eq_true rfl) ⟨by show _ ≤ 600130; omega, by show _ ≤ 7301080; omega⟩ (fun r3 z3 G3 hq3 => ?_)
        obtain ⟨w3, q3, f3, hr3, hs3⟩ := hq3
        subst hr3
        have p3 := TA.fr p2 f3 (by omega)
        refine z_if_eq (tgt := 186) O dL_law_172 (by decide) (fun c => absurd c (by decide)) (fun _ => ?_)
        refine z_aload_n O dL_law_175 rfl rfl ?_
        refine z_callSi (As := [.ref (B + 475)]) (st := []) O (s_LAW_kept hfl q3 (kk_right hs3)) wy_L_kept wl_RL_218 dL_law_176 rfl rfl ⟨(Nat.le_of_ble_eq_true rfl), (Nat.le_of_ble_eq_true rfl)⟩ (Nat.le_of_ble_eq_true rfl) ⟨by show _ ≤ 600130; omega, by show _ ≤ 7301080; omega⟩ (fun r4 z4 G4 hq4 => ?_)
        obtain ⟨rfl, hr4⟩ := hq4
        subst hr4
        refine z_if_eq (tgt := 186) O dL_law_179 (by decide) (fun c => absurd c (by decide)) (fun _ => ?_)
        refine z_iconst (v := 1) O dL_law_182 (by decide) ?_
        refine z_goto (tgt := 187) O dL_law_183 (by decide) ?_
        refine z_istore_n (L' := [some (.ref b), some (.ref B), some (.ref (B + 475)), some (.int 1), some (.int (Int32.ofNat i)), some (.int x), some (.int y)]) O dL_law_187 rfl (by decide) rfl ?_
        exact h188 _ _ _ _ _ _ (7000 * (i : Int) + 99) (by omega) (by omega) (by omega) hs3 p3 q3
    · have i0 : i = 0 := by
        have g : (Int32.ofNat i).toInt = 0 := congrArg Int32.toInt c
        omega
      refine z_aload_n O dL_law_90 rfl rfl ?_
      refine z_iload O dL_law_91 rfl ?_
      refine z_callSi (As := [.ref B, .int x]) (st := []) O (s_LAW_told hfl tp (kt_told hs.1 hx)) wy_L_told wl_RL_221 dL_law_93 rfl rfl ⟨(Nat.le_of_ble_eq_true rfl), (Nat.le_of_ble_eq_true rfl)⟩ (Nat.le_of_ble_eq_true rfl) ⟨by show _ ≤ 600130; omega, by show _ ≤ 7301080; omega⟩ (fun r1 z1 G1 hq1 => ?_)
      obtain ⟨v1, p1, f1, hr1, t1⟩ := hq1
      subst hr1
      have q1 := TA.fr tq f1 (by omega)
      refine z_if_eq (tgt := 124) O dL_law_96 (by decide) (fun c => absurd c (by decide)) (fun _ => ?_)
      refine z_aload_n O dL_law_99 rfl rfl ?_
      refine z_iload O dL_law_100 rfl ?_
      refine z_callSi (As := [.ref (B + 475), .int x]) (st := []) O (s_LAW_told hfl q1 (kt_told hs.2.1 hx)) wy_L_told wl_RL_221 dL_law_102 rfl rfl ⟨(Nat.le_of_ble_eq_true rfl), (Nat.le_of_ble_eq_true rfl)⟩ (Nat.le_of_ble_eq_true rfl) ⟨by show _ ≤ 600130; omega, by show _ ≤ 7301080; omega⟩ (fun r2 z2 G2 hq2 => ?_)
      obtain ⟨w2, q2, f2, hr2, t2⟩ := hq2
      subst hr2
      have p2 := TA.fr p1 f2 (by omega)
      refine z_if_eq (tgt := 124) O dL_law_105 (by decide) (fun c => absurd c (by decide)) (fun _ => ?_)
      refine z_aload_n O dL_law_108 rfl rfl ?_
      refine z_callHl (As := [.ref B]) (st := []) O (s_LAW_load hfl p2 (kt_load hs.1 hx t1)) wh_L_load wl_RL_225 dL_law_109 rfl rfl ⟨(Nat.le_of_ble_eq_true rfl), (Nat.le_of_ble_eq_true rfl)⟩ (Nat.le_of_ble_eq_true rfl) ⟨by show _ ≤ 600130; omega, by show _ ≤ 7301080; omega⟩ (fun r3 z3 G3 hq3 => ?_)
      obtain ⟨v3, p3, f3, e3⟩ := hq3
      have q3 := TA.fr q2 f3 (by omega)
      refine z_aload_n O dL_law_112 rfl rfl ?_
      refine z_callHl (As := [.ref (B + 475)]) (st := [.long r3]) O (s_LAW_load hfl q3 (kt_load hs.2.1 hx t2)) wh_L_load wl_RL_225 dL_law_113 rfl rfl ⟨(Nat.le_of_ble_eq_true rfl), (Nat.le_of_ble_eq_true rfl)⟩ (Nat.le_of_ble_eq_true rfl) ⟨by show _ ≤ 600130; omega, by show _ ≤ 7301080; omega⟩ (fun r4 z4 G4 hq4 => ?_)
      obtain ⟨w4, q4, f4, e4⟩ := hq4
      have p4 := TA.fr p3 f4 (by omega)
      obtain ⟨er, hs4⟩ := kt_end (by omega) (TldP.sim hs t1 t2) e3 e4
      refine z_lcmp O dL_law_116 ?_
      refine z_if_ne (tgt := 124) O dL_law_117 (by decide) (fun c => absurd (lw_cmp0 er) c) (fun _ => ?_)
      refine z_iconst (v := 1) O dL_law_120 (by decide) ?_
      refine z_goto (tgt := 125) O dL_law_121 (by decide) ?_
      refine z_istore_n (L' := [some (.ref b), some (.ref B), some (.ref (B + 475)), some (.int 1), some (.int (Int32.ofNat i)), some (.int x), some (.int y)]) O dL_law_125 rfl (by decide) rfl ?_
      refine z_goto (tgt := 265) O dL_law_126 (by decide) ?_
      exact h265 _ _ _ _ _ _ (by omega) (by omega) (hs4.mono (by omega) (by omega)) p4 q4
theorem zst_num {args : Array Value} {s : State} {ty : FieldType} (h : (Cond.arrayClass ty).before args s = true) (hr : ∀ c : ClassId, s.vm.findClass ("[" ++ ty.toString) = some c → va_RA s c ty) : ∃ c : ClassId, ArrOfT s c ty ∧ va_RA s c ty := by
  obtain ⟨c, k, comp, h1, h2, h3⟩ := Cond.arrayClass_spec h
  exact ⟨c, fun n z => ⟨fun k h => (by cases h), k, h2, comp, h3⟩, hr c h1⟩
theorem zst_obj {args : Array Value} {s : State} {C : String} (h : (Cond.arrayOver (.object C)).before args s = true) : ∃ c : ClassId, ArrOfT s c (.object C) ∧ va_RA s c (.object C) := by
  obtain ⟨comp, c, k, h1, -, h2, h3, h4⟩ := Cond.arrayOver_spec h
  exact ⟨c, fun n z => ⟨fun k h => (by cases h), k, h2, comp, h3⟩, k, comp, h2, h3, h1, h4⟩
theorem zst_str {args : Array Value} {s : State} {k : Nat} {tx : String} (h1 : (Cond.stringRef "TrimmedLog" k tx).before args s = true) (h2 : (Cond.exactly (.string "TrimmedLog" k) "java/lang/String").before args s = true) : ∃ a, vk_R "TrimmedLog" k tx a s := by
  obtain ⟨a, h3⟩ : ∃ a, (Term.string "TrimmedLog" k).eval args s none [] s = some (.ref a) := by
    obtain ⟨a, c9, cell9, k9, h, -⟩ := Cond.exactly_spec h2
    exact ⟨a, h⟩
  exact ⟨a, vk_R.of h1 h3⟩
set_option maxRecDepth 100000 in
theorem zW_start {b : Nat} {s : State} (hts : ∀ w ∈ lw_tbl, w.before #[Value.ref b] s = true) (hg : (Jvm.Cond.and given_1 narrow_1).before #[Value.ref b] s = true) : ∃ (D : zD) (sa : Nat → Nat), zW D s.heap.size sa s s.heap := by
  have hz : ∀ w ∈ zgt, w.before #[Value.ref b] s = true := fun w hw => hts w (List.mem_filter.mp hw).1
  have hs := flat_of_before _ hg
  obtain ⟨c0, i0, k0⟩ := u_known (C := RX0) (T := TX0) (N := 3) (n := 3) hz wu_0 (hz _ (zgt_at 214 (by decide +kernel) (by decide +kernel)))
  obtain ⟨c1, i1, k1⟩ := u_known (C := RX1) (T := TX1) (N := 11) (n := 11) hz wu_1 (hz _ (zgt_at 66 (by decide +kernel) (by decide +kernel)))
  obtain ⟨c2, i2, k2⟩ := u_known (C := RX2) (T := TX2) (N := 9) (n := 9) hz wu_2 (hz _ (zgt_at 121 (by decide +kernel) (by decide +kernel)))
  obtain ⟨c3, i3, k3⟩ := u_known (C := RX3) (T := TX3) (N := 7) (n := 7) hz wu_3 (hz _ (zgt_at 60 (by decide +kernel) (by decide +kernel)))
  obtain ⟨c4, i4, k4⟩ := u_known (C := RX4) (T := TX4) (N := 8) (n := 8) hz wu_4 (hz _ (zgt_at 28 (by decide +kernel) (by decide +kernel)))
  obtain ⟨c5, i5, k5⟩ := u_known (C := RX5) (T := TX5) (N := 6) (n := 6) hz wu_5 (hz _ (zgt_at 20 (by decide +kernel) (by decide +kernel)))
  obtain ⟨a0, ra0, rb0⟩ := zst_num (ty := .int) (hz _ wa_int) (fun c h => h)
  obtain ⟨a1, ra1, rb1⟩ := zst_num (ty := .boolean) (hz _ wa_bool) (fun c h => h)
  obtain ⟨a2, ra2, rb2⟩ := zst_num (ty := .char) (hz _ wa_char) (fun c h => h)
  have ao1 := (hts (.arrayOver (.object "TrimmedLog$Reader")) (List.mem_of_getElem? (i := 120) (by decide +kernel)))
  have ao2 := (hts (.arrayOver (.object "TrimmedLog$State")) (List.mem_of_getElem? (i := 220) (by decide +kernel)))
  obtain ⟨a4, ra4, rb4⟩ := zst_obj ao1
  obtain ⟨a5, ra5, rb5⟩ := zst_obj ao2
  have hA : ∀ a : Nat, a < s.heap.size → ¬ zA s.heap.size a := fun a h => Nat.not_le.mpr h
  obtain ⟨t0, e0, q0⟩ := va_Tof (tm := (.static "TrimmedLog" "AT_FIRST" "[I")) (ty := .int) (N := 6) (f := fun k => .int (zSv 0 k)) (A := zA s.heap.size) (by decide) (hs (.arrayOf (.static "TrimmedLog" "AT_FIRST" "[I") .int) (by decide +kernel)) (va_eqt (z := 6) (hs (.eq (.length (.static "TrimmedLog" "AT_FIRST" "[I")) (.int 6)) (by decide +kernel))) (fun k hk => by
    match k with
    | 0 => exact va_eqt (z := 4) (hs (.eq (.elem (.static "TrimmedLog" "AT_FIRST" "[I") (.int 0)) (.int 4)) (by decide +kernel))
    | 1 => exact va_eqt (z := 100) (hs (.eq (.elem (.static "TrimmedLog" "AT_FIRST" "[I") (.int 1)) (.int 100)) (by decide +kernel))
    | 2 => exact va_eqt (z := 0) (hs (.eq (.elem (.static "TrimmedLog" "AT_FIRST" "[I") (.int 2)) (.int 0)) (by decide +kernel))
    | 3 => exact va_eqt (z := 400) (hs (.eq (.elem (.static "TrimmedLog" "AT_FIRST" "[I") (.int 3)) (.int 400)) (by decide +kernel))
    | 4 => exact va_eqt (z := 0) (hs (.eq (.elem (.static "TrimmedLog" "AT_FIRST" "[I") (.int 4)) (.int 0)) (by decide +kernel))
    | 5 => exact va_eqt (z := 0) (hs (.eq (.elem (.static "TrimmedLog" "AT_FIRST" "[I") (.int 5)) (.int 0)) (by decide +kernel))
    | k + 6 => exact absurd hk (by omega)) hA
  have z0 : va_Z "TrimmedLog" "AT_FIRST" "[I" (.ref t0) (zA s.heap.size) s s.heap := va_Zref (hts (.laysStatic "TrimmedLog" "AT_FIRST" "[I") (List.mem_of_getElem? (i := 177) (by decide +kernel))) (hz _ (zgt_at 5 (by decide +kernel) (by decide +kernel))) e0 hA
  obtain ⟨t1, e1, q1⟩ := va_Tof (tm := (.static "TrimmedLog" "LEAST" "[I")) (ty := .int) (N := 6) (f := fun k => .int (zSv 1 k)) (A := zA s.heap.size) (by decide) (hs (.arrayOf (.static "TrimmedLog" "LEAST" "[I") .int) (by decide +kernel)) (va_eqt (z := 6) (hs (.eq (.length (.static "TrimmedLog" "LEAST" "[I")) (.int 6)) (by decide +kernel))) (fun k hk => by
    match k with
    | 0 => exact va_eqt (z := 1) (hs (.eq (.elem (.static "TrimmedLog" "LEAST" "[I") (.int 0)) (.int 1)) (by decide +kernel))
    | 1 => exact va_eqt (z := 40) (hs (.eq (.elem (.static "TrimmedLog" "LEAST" "[I") (.int 1)) (.int 40)) (by decide +kernel))
    | 2 => exact va_eqt (z := 0) (hs (.eq (.elem (.static "TrimmedLog" "LEAST" "[I") (.int 2)) (.int 0)) (by decide +kernel))
    | 3 => exact va_eqt (z := 0) (hs (.eq (.elem (.static "TrimmedLog" "LEAST" "[I") (.int 3)) (.int 0)) (by decide +kernel))
    | 4 => exact va_eqt (z := 0) (hs (.eq (.elem (.static "TrimmedLog" "LEAST" "[I") (.int 4)) (.int 0)) (by decide +kernel))
    | 5 => exact va_eqt (z := 0) (hs (.eq (.elem (.static "TrimmedLog" "LEAST" "[I") (.int 5)) (.int 0)) (by decide +kernel))
    | k + 6 => exact absurd hk (by omega)) hA
  have z1 : va_Z "TrimmedLog" "LEAST" "[I" (.ref t1) (zA s.heap.size) s s.heap := va_Zref (hts (.laysStatic "TrimmedLog" "LEAST" "[I") (List.mem_of_getElem? (i := 414) (by decide +kernel))) (hz _ (zgt_at 5 (by decide +kernel) (by decide +kernel))) e1 hA
  obtain ⟨t2, e2, q2⟩ := va_Tof (tm := (.static "TrimmedLog" "MOST" "[I")) (ty := .int) (N := 6) (f := fun k => .int (zSv 2 k)) (A := zA s.heap.size) (by decide) (hs (.arrayOf (.static "TrimmedLog" "MOST" "[I") .int) (by decide +kernel)) (va_eqt (z := 6) (hs (.eq (.length (.static "TrimmedLog" "MOST" "[I")) (.int 6)) (by decide +kernel))) (fun k hk => by
    match k with
    | 0 => exact va_eqt (z := 8) (hs (.eq (.elem (.static "TrimmedLog" "MOST" "[I") (.int 0)) (.int 8)) (by decide +kernel))
    | 1 => exact va_eqt (z := 200) (hs (.eq (.elem (.static "TrimmedLog" "MOST" "[I") (.int 1)) (.int 200)) (by decide +kernel))
    | 2 => exact va_eqt (z := 99) (hs (.eq (.elem (.static "TrimmedLog" "MOST" "[I") (.int 2)) (.int 99)) (by decide +kernel))
    | 3 => exact va_eqt (z := 4000) (hs (.eq (.elem (.static "TrimmedLog" "MOST" "[I") (.int 3)) (.int 4000)) (by decide +kernel))
    | 4 => exact va_eqt (z := 4000) (hs (.eq (.elem (.static "TrimmedLog" "MOST" "[I") (.int 4)) (.int 4000)) (by decide +kernel))
    | 5 => exact va_eqt (z := 99) (hs (.eq (.elem (.static "TrimmedLog" "MOST" "[I") (.int 5)) (.int 99)) (by decide +kernel))
    | k + 6 => exact absurd hk (by omega)) hA
  have z2 : va_Z "TrimmedLog" "MOST" "[I" (.ref t2) (zA s.heap.size) s s.heap := va_Zref (hts (.laysStatic "TrimmedLog" "MOST" "[I") (List.mem_of_getElem? (i := 419) (by decide +kernel))) (hz _ (zgt_at 5 (by decide +kernel) (by decide +kernel))) e2 hA
  have yu : vx_Zq Bundle.tN "UNASSIGNED_STACK" Bundle.steD (zA s.heap.size) s s.heap := vx_Zqof (hts (.laysStatic Bundle.tN "UNASSIGNED_STACK" Bundle.steD) (List.mem_of_getElem? (i := 332) (by decide +kernel))) (hz _ (zgt_at 13 (by decide +kernel) (by decide +kernel))) (hs (.isRef (.static Bundle.tN "UNASSIGNED_STACK" Bundle.steD)) (by decide +kernel)) hA
  have yv : vx_Zq Bundle.tN "SUPPRESSED_SENTINEL" Bundle.listD (zA s.heap.size) s s.heap := vx_Zqof (hts (.laysStatic Bundle.tN "SUPPRESSED_SENTINEL" Bundle.listD) (List.mem_of_getElem? (i := 334) (by decide +kernel))) (hz _ (zgt_at 13 (by decide +kernel) (by decide +kernel))) (hs (.isRef (.static Bundle.tN "SUPPRESSED_SENTINEL" Bundle.listD)) (by decide +kernel)) hA
  refine ⟨((fun i => match i with | 0 => c0 | 1 => c1 | 2 => c2 | 3 => c3 | 4 => c4 | _ => c5), (fun i => match i with | 0 => i0 | 1 => i1 | 2 => i2 | 3 => i3 | 4 => i4 | _ => i5), (fun i => match i with | 100 => a0 | 101 => a1 | 102 => a2 | 104 => a4 | _ => a5)), (fun i => match i with | 0 => t0 | 1 => t1 | _ => t2), ⟨?_, ?_⟩, ?_, yu, yv, ?_, ?_, ?_, ?_, ?_, ?_, ?_⟩
  · intro c q hq
    match c, hq with
    | 0, rfl => exact k0
    | 1, rfl => exact k1
    | 2, rfl => exact k2
    | 3, rfl => exact k3
    | 4, rfl => exact k4
    | 5, rfl => exact k5
    | c + 6, hq => exact nomatch hq
  · intro k q hk
    match k, hk with
    | 0, rfl => exact ⟨ra0, rb0⟩
    | 1, rfl => exact ⟨ra1, rb1⟩
    | 2, rfl => exact ⟨ra2, rb2⟩
    | 3, rfl => exact ⟨ra0, rb0⟩
    | 4, rfl => exact ⟨ra4, rb4⟩
    | 5, rfl => exact ⟨ra5, rb5⟩
    | k + 6, hk => exact nomatch hk
  · intro j hj
    match j with
    | 0 => exact ⟨z0, q0⟩
    | 1 => exact ⟨z1, q1⟩
    | 2 => exact ⟨z2, q2⟩
    | j + 3 => exact absurd hj (by omega)
  · exact (List.forall_mem_cons.mpr ⟨(va_Nc.of (hs (.not (.castable "java/lang/IllegalStateException" "java/lang/IllegalArgumentException")) (by decide +kernel))), (List.forall_mem_cons.mpr ⟨(va_Nc.of (hs (.not (.castable "java/lang/IllegalStateException" "java/lang/IndexOutOfBoundsException")) (by decide +kernel))), (List.forall_mem_cons.mpr ⟨(va_Nc.of (hs (.not (.castable "java/lang/IllegalArgumentException" "java/lang/IndexOutOfBoundsException")) (by decide +kernel))), (List.forall_mem_cons.mpr ⟨(va_Nc.of (hs (.not (.castable "java/lang/IllegalArgumentException" "java/lang/IllegalStateException")) (by decide +kernel))), (List.forall_mem_cons.mpr ⟨(va_Nc.of (hs (.not (.castable "java/lang/IndexOutOfBoundsException" "java/lang/IllegalArgumentException")) (by decide +kernel))), (List.forall_mem_cons.mpr ⟨(va_Nc.of (hs (.not (.castable "java/lang/IndexOutOfBoundsException" "java/lang/IllegalStateException")) (by decide +kernel))), (fun _ h => absurd h List.not_mem_nil)⟩)⟩)⟩)⟩)⟩)⟩)
  · exact (List.forall_mem_cons.mpr ⟨(zst_str (hts (.stringRef "TrimmedLog" 47 "c is not 0 to 255") (List.mem_of_getElem? (i := 863) (by decide +kernel))) (hs (.exactly (.string "TrimmedLog" 47) "java/lang/String") (by decide +kernel))), (List.forall_mem_cons.mpr ⟨(zst_str (hts (.stringRef "TrimmedLog" 58 "the text is full") (List.mem_of_getElem? (i := 868) (by decide +kernel))) (hs (.exactly (.string "TrimmedLog" 58) "java/lang/String") (by decide +kernel))), (List.forall_mem_cons.mpr ⟨(zst_str (hts (.stringRef "TrimmedLog" 72 "the text is not a log") (List.mem_of_getElem? (i := 346) (by decide +kernel))) (hs (.exactly (.string "TrimmedLog" 72) "java/lang/String") (by decide +kernel))), (List.forall_mem_cons.mpr ⟨(zst_str (hts (.stringRef "TrimmedLog" 84 "what is not 0 to 11") (List.mem_of_getElem? (i := 602) (by decide +kernel))) (hs (.exactly (.string "TrimmedLog" 84) "java/lang/String") (by decide +kernel))), (List.forall_mem_cons.mpr ⟨(zst_str (hts (.stringRef "TrimmedLog" 102 "the log has no such row") (List.mem_of_getElem? (i := 672) (by decide +kernel))) (hs (.exactly (.string "TrimmedLog" 102) "java/lang/String") (by decide +kernel))), (List.forall_mem_cons.mpr ⟨(zst_str (hts (.stringRef "TrimmedLog" 105 "what is not 0 to 5") (List.mem_of_getElem? (i := 635) (by decide +kernel))) (hs (.exactly (.string "TrimmedLog" 105) "java/lang/String") (by decide +kernel))), (List.forall_mem_cons.mpr ⟨(zst_str (hts (.stringRef "TrimmedLog" 117 "there is no such segment") (List.mem_of_getElem? (i := 691) (by decide +kernel))) (hs (.exactly (.string "TrimmedLog" 117) "java/lang/String") (by decide +kernel))), (List.forall_mem_cons.mpr ⟨(zst_str (hts (.stringRef "TrimmedLog" 126 "there is no such reader") (List.mem_of_getElem? (i := 644) (by decide +kernel))) (hs (.exactly (.string "TrimmedLog" 126) "java/lang/String") (by decide +kernel))), (List.forall_mem_cons.mpr ⟨(zst_str (hts (.stringRef "TrimmedLog" 128 "what is not 0 to 8") (List.mem_of_getElem? (i := 645) (by decide +kernel))) (hs (.exactly (.string "TrimmedLog" 128) "java/lang/String") (by decide +kernel))), (List.forall_mem_cons.mpr ⟨(zst_str (hts (.stringRef "TrimmedLog" 134 "key is not 0 to 7") (List.mem_of_getElem? (i := 625) (by decide +kernel))) (hs (.exactly (.string "TrimmedLog" 134) "java/lang/String") (by decide +kernel))), (List.forall_mem_cons.mpr ⟨(zst_str (hts (.stringRef "TrimmedLog" 266 "an argument is out of its range") (List.mem_of_getElem? (i := 710) (by decide +kernel))) (hs (.exactly (.string "TrimmedLog" 266) "java/lang/String") (by decide +kernel))), (List.forall_mem_cons.mpr ⟨(zst_str (hts (.stringRef "TrimmedLog" 268 "the log does not allow it now") (List.mem_of_getElem? (i := 711) (by decide +kernel))) (hs (.exactly (.string "TrimmedLog" 268) "java/lang/String") (by decide +kernel))), (List.forall_mem_cons.mpr ⟨(zst_str (hts (.stringRef "TrimmedLog" 164 "no state is remembered") (List.mem_of_getElem? (i := 904) (by decide +kernel))) (hs (.exactly (.string "TrimmedLog" 164) "java/lang/String") (by decide +kernel))), (List.forall_mem_cons.mpr ⟨(zst_str (hts (.stringRef "TrimmedLog" 181 "row is not from the first row to the end") (List.mem_of_getElem? (i := 797) (by decide +kernel))) (hs (.exactly (.string "TrimmedLog" 181) "java/lang/String") (by decide +kernel))), (List.forall_mem_cons.mpr ⟨(zst_str (hts (.stringRef "TrimmedLog" 183 "key is not 0 to 7, or way is not 0 or 1") (List.mem_of_getElem? (i := 798) (by decide +kernel))) (hs (.exactly (.string "TrimmedLog" 183) "java/lang/String") (by decide +kernel))), (List.forall_mem_cons.mpr ⟨(zst_str (hts (.stringRef "TrimmedLog" 205 "n is not 1 to 200") (List.mem_of_getElem? (i := 811) (by decide +kernel))) (hs (.exactly (.string "TrimmedLog" 205) "java/lang/String") (by decide +kernel))), (List.forall_mem_cons.mpr ⟨(zst_str (hts (.stringRef "TrimmedLog" 214 "n is not 1 to 3") (List.mem_of_getElem? (i := 823) (by decide +kernel))) (hs (.exactly (.string "TrimmedLog" 214) "java/lang/String") (by decide +kernel))), (List.forall_mem_cons.mpr ⟨(zst_str (hts (.stringRef "TrimmedLog" 220 "script is not a number of at most 6 * n digits") (List.mem_of_getElem? (i := 828) (by decide +kernel))) (hs (.exactly (.string "TrimmedLog" 220) "java/lang/String") (by decide +kernel))), (List.forall_mem_cons.mpr ⟨(zst_str (hts (.stringRef "TrimmedLog" 228 "m is not 1 to 60") (List.mem_of_getElem? (i := 849) (by decide +kernel))) (hs (.exactly (.string "TrimmedLog" 228) "java/lang/String") (by decide +kernel))), (List.forall_mem_cons.mpr ⟨(zst_str (hts (.stringRef "TrimmedLog" 252 "there is no such save slot") (List.mem_of_getElem? (i := 547) (by decide +kernel))) (hs (.exactly (.string "TrimmedLog" 252) "java/lang/String") (by decide +kernel))), (List.forall_mem_cons.mpr ⟨(zst_str (hts (.stringRef "TrimmedLog" 261 "nothing has been saved in it since the last load") (List.mem_of_getElem? (i := 576) (by decide +kernel))) (hs (.exactly (.string "TrimmedLog" 261) "java/lang/String") (by decide +kernel))), (fun _ h => absurd h List.not_mem_nil)⟩)⟩)⟩)⟩)⟩)⟩)⟩)⟩)⟩)⟩)⟩)⟩)⟩)⟩)⟩)⟩)⟩)⟩)⟩)⟩)⟩)
  · exact (List.forall_mem_cons.mpr ⟨(va_Nw.of rfl (hts (.methodLinkNest RX5 9 yX4_init "TrimmedLog") (List.mem_of_getElem? (i := 29) (by decide +kernel)))), (List.forall_mem_cons.mpr ⟨(va_Nw.of rfl (hts (.methodLinkNest RX3 11 yX1_init "TrimmedLog") (List.mem_of_getElem? (i := 67) (by decide +kernel)))), (List.forall_mem_cons.mpr ⟨(va_Nw.of rfl (hts (.methodLinkNest RX3 28 yX2_init "TrimmedLog") (List.mem_of_getElem? (i := 122) (by decide +kernel)))), (List.forall_mem_cons.mpr ⟨(va_Nw.of rfl (hts (.methodLinkNest RX3 37 yX5_copy "TrimmedLog") (List.mem_of_getElem? (i := 178) (by decide +kernel)))), (List.forall_mem_cons.mpr ⟨(va_Nw.of rfl (hts (.methodLinkNest RX4 54 yX5_asNumber "TrimmedLog") (List.mem_of_getElem? (i := 302) (by decide +kernel)))), (List.forall_mem_cons.mpr ⟨(va_Nw.of rfl (hts (.methodLinkNest RX3 145 yX5_at "TrimmedLog") (List.mem_of_getElem? (i := 415) (by decide +kernel)))), (List.forall_mem_cons.mpr ⟨(va_Nw.of rfl (hts (.methodLinkNest RX3 81 yX5_asNumber "TrimmedLog") (List.mem_of_getElem? (i := 478) (by decide +kernel)))), (List.forall_mem_cons.mpr ⟨(va_Nw.of rfl (hts (.methodLinkNest RX1 46 yX5_copy "TrimmedLog") (List.mem_of_getElem? (i := 562) (by decide +kernel)))), (List.forall_mem_cons.mpr ⟨(va_Nw.of rfl (hts (.methodLinkNest RX2 25 yX5_copy "TrimmedLog") (List.mem_of_getElem? (i := 567) (by decide +kernel)))), (List.forall_mem_cons.mpr ⟨(va_Nw.of rfl (hts (.methodLinkNest RX1 54 yX5_at "TrimmedLog") (List.mem_of_getElem? (i := 428) (by decide +kernel)))), (List.forall_mem_cons.mpr ⟨(va_Nw.of rfl (hts (.methodLinkNest RX1 69 yX5_put "TrimmedLog") (List.mem_of_getElem? (i := 433) (by decide +kernel)))), (List.forall_mem_cons.mpr ⟨(va_Nw.of rfl (hts (.methodLinkNest RX3 160 yX5_isIn "TrimmedLog") (List.mem_of_getElem? (i := 394) (by decide +kernel)))), (List.forall_mem_cons.mpr ⟨(va_Nw.of rfl (hts (.methodLinkNest RX3 218 yX5_put "TrimmedLog") (List.mem_of_getElem? (i := 448) (by decide +kernel)))), (fun _ h => absurd h List.not_mem_nil)⟩)⟩)⟩)⟩)⟩)⟩)⟩)⟩)⟩)⟩)⟩)⟩)⟩)
  · exact (List.forall_mem_cons.mpr ⟨(va_Nw.of rfl (hts (.fieldLinkNest RX3 34 "TrimmedLog" "AT_FIRST" "[I" "TrimmedLog") (List.mem_of_getElem? (i := 176) (by decide +kernel)))), (List.forall_mem_cons.mpr ⟨(va_Nw.of rfl (hts (.fieldLinkNest RX3 164 "TrimmedLog" "LEAST" "[I" "TrimmedLog") (List.mem_of_getElem? (i := 413) (by decide +kernel)))), (List.forall_mem_cons.mpr ⟨(va_Nw.of rfl (hts (.fieldLinkNest RX3 167 "TrimmedLog" "MOST" "[I" "TrimmedLog") (List.mem_of_getElem? (i := 418) (by decide +kernel)))), (fun _ h => absurd h List.not_mem_nil)⟩)⟩)⟩)
  · exact (List.forall_mem_cons.mpr ⟨(va_Nw.of rfl (hts (.castable "java/lang/IllegalArgumentException" "java/lang/IllegalArgumentException") (List.mem_of_getElem? (i := 595) (by decide +kernel)))), (List.forall_mem_cons.mpr ⟨(va_Nw.of rfl (hts (.castable "java/lang/IllegalStateException" "java/lang/IllegalStateException") (List.mem_of_getElem? (i := 307) (by decide +kernel)))), (List.forall_mem_cons.mpr ⟨(va_Nw.of rfl (hts (.castable "java/lang/IndexOutOfBoundsException" "java/lang/IndexOutOfBoundsException") (List.mem_of_getElem? (i := 540) (by decide +kernel)))), (fun _ h => absurd h List.not_mem_nil)⟩)⟩)⟩)
  · exact (List.forall_mem_cons.mpr ⟨(va_Nw.of rfl (hts (.declares ⟨"java/lang/RuntimeException", "<init>", "(Ljava/lang/String;)V"⟩) (List.mem_of_getElem? (i := 309) (by decide +kernel)))), (List.forall_mem_cons.mpr ⟨(va_Nw.of rfl (hts (.declares ⟨"java/lang/Exception", "<init>", "(Ljava/lang/String;)V"⟩) (List.mem_of_getElem? (i := 311) (by decide +kernel)))), (List.forall_mem_cons.mpr ⟨(va_Nw.of rfl (hts (.declares ⟨"java/lang/Throwable", "<init>", "(Ljava/lang/String;)V"⟩) (List.mem_of_getElem? (i := 313) (by decide +kernel)))), (fun _ h => absurd h List.not_mem_nil)⟩)⟩)⟩)
  · exact (List.forall_mem_cons.mpr ⟨(va_AO.of ao1), (List.forall_mem_cons.mpr ⟨(va_AO.of ao2), (fun _ h => absurd h List.not_mem_nil)⟩)⟩)
theorem wn_RL_10 : zNw RL 10 5 dT 6 := ⟨RX5, TX5, tyX5, rfl, by decide, wu_5, tyX5_ok, (zgt_at 19 (by decide +kernel) (by decide +kernel)), (zgt_at 20 (by decide +kernel) (by decide +kernel)), (zgt_at 5 (by decide +kernel) (by decide +kernel)), by decide +kernel⟩
set_option maxRecDepth 100000 in
theorem lw_start {p : Program} {e : Env} {s : State} {m : MethodId} {below : List Frame} {meth : Method} {c : Code} (l : Launch) (hflags : l.flags = flags0) {b N : Nat} {xs : Nat → Int32} (hN : N ≤ 260) (C0 : lw_At p s m meth c b N xs) : W p l e room_1 s m #[Value.ref b] below meth c s.heap [] 0 0 (lw_Z below #[Value.ref b] s) (entryFrame m ([Value.ref b] : List Value).toArray 7) := by
  obtain ⟨hx, hbc, hret, hml, hown, hts, hX, hb, hlk, hg⟩ := C0
  obtain ⟨D, sa, hW⟩ := zW_start hts hg
  have hfl : l.stackTraces = false := by
    show (!l.flags.contains noTraceFlag) = false
    rw [hflags]
    decide +kernel
  have hl := lv_entry [Value.ref b] (n := 7) (Nat.le_of_ble_eq_true rfl)
  rw [lg_entry_eq]
  generalize (lg_sl [Value.ref b] ++ List.replicate (7 - (lg_sl [Value.ref b]).length) Slot.unset).toArray = ls at hl ⊢
  have O : zO p l s m #[.ref b] c D s.heap.size sa 7 cL_law RL := ⟨hx, hbc, hml, hown, fun w hw => hts w (List.mem_filter.mp hw).1, hW, Nat.le_refl _, hfl⟩
  have hlv : zlv ls 7 [some (.ref b), none, none, none, none, none, none] := hl
  have main : zT p l e room_1 s m #[.ref b] below meth c (lw_Z below #[.ref b] s) D s.heap.size 7 0 0 0 [] [some (.ref b), none, none, none, none, none, none] s.heap.size (fun _ => none) := by
    have hbB : ¬ s.heap.size ≤ b := Nat.not_le.mpr hb
    generalize hB : s.heap.size = B at O hbB
    refine y_new O wn_RL_10 dL_law_0 (Nat.le_of_ble_eq_true rfl) (Nat.le_of_ble_eq_true rfl) (fun G1 h1 => ?_)
    refine z_dup O dL_law_3 rfl ?_
    refine z_callIv (As := []) (st := [.ref B]) O (s_T_init hfl h1.1) wy_X5_init wl_RL_205 dL_law_4 rfl rfl ⟨(Nat.le_of_ble_eq_true rfl), (Nat.le_of_ble_eq_true rfl)⟩ (Nat.le_of_ble_eq_true rfl) ⟨(Nat.le_of_ble_eq_true rfl), (Nat.le_of_ble_eq_true rfl)⟩ (fun z2 G2 h2 => ?_)
    obtain ⟨rfl, t2, f2⟩ := h2
    refine z_astore_n (L' := [some (.ref b), some (.ref B), none, none, none, none, none]) O dL_law_7 rfl (by decide) rfl ?_
    refine y_new O wn_RL_10 dL_law_8 (Nat.le_of_ble_eq_true rfl) (Nat.le_of_ble_eq_true rfl) (fun G3 h3 => ?_)
    refine z_dup O dL_law_11 rfl ?_
    refine z_callIv (As := []) (st := [.ref (B + 475)]) O (s_T_init hfl h3.1) wy_X5_init wl_RL_205 dL_law_12 rfl rfl ⟨(Nat.le_of_ble_eq_true rfl), (Nat.le_of_ble_eq_true rfl)⟩ (Nat.le_of_ble_eq_true rfl) ⟨(Nat.le_of_ble_eq_true rfl), (Nat.le_of_ble_eq_true rfl)⟩ (fun z4 G4 h4 => ?_)
    obtain ⟨rfl, t4, f4⟩ := h4
    refine z_astore_n (L' := [some (.ref b), some (.ref B), some (.ref (B + 475)), none, none, none, none]) O dL_law_15 rfl (by decide) rfl ?_
    have tp : TA B T0 G4 := TA.eq t2 (fun q g1 g2 => (f4 q (by omega)).trans (h3.2 q (by omega)))
    have hs := sim_T0
    refine z_aload_n O dL_law_16 rfl rfl ?_
    refine z_aload_n O dL_law_17 rfl rfl ?_
    refine z_aload_n O dL_law_18 rfl rfl ?_
    refine z_iconst (v := 0) O dL_law_19 (by decide) ?_
    refine z_callSd (As := [.ref b, .int 0]) (st := [.ref (B + 475), .ref B]) O hX hb hbB (s_LAW_draw hfl hbB hN (by decide)) wy_L_draw wl_RL_206 dL_law_20 rfl rfl ⟨(Nat.le_of_ble_eq_true rfl), (Nat.le_of_ble_eq_true rfl)⟩ (Nat.le_of_ble_eq_true rfl) ⟨(Nat.le_of_ble_eq_true rfl), (Nat.le_of_ble_eq_true rfl)⟩ (fun x z_x G_x hq_x => ?_)
    obtain ⟨rfl, rfl, hx⟩ := hq_x
    refine z_callSi (As := [.ref B, .ref (B + 475), .int x]) (st := []) O (s_LAW_alike hfl tp t4 (by omega) (ka_alike hs (by omega) hx)) wy_L_alike wl_RL_210 dL_law_23 rfl rfl ⟨(Nat.le_of_ble_eq_true rfl), (Nat.le_of_ble_eq_true rfl)⟩ (Nat.le_of_ble_eq_true rfl) ⟨(Nat.le_of_ble_eq_true rfl), (Nat.le_of_ble_eq_true rfl)⟩ (fun r_v1 z_v1 G_v1 hq_v1 => ?_)
    obtain ⟨v1, w1, G8_v1, a1_v1, a2_v1, a3_v1, a4_v1, hr_v1, hs_v1⟩ := hq_v1
    subst hr_v1
    have p_v1 := TA.fr a1_v1 a4_v1 (by omega)
    refine z_if_eq (tgt := 47) O dL_law_26 (by decide) (fun c => absurd c (by decide)) (fun _ => ?_)
    refine z_aload_n O dL_law_29 rfl rfl ?_
    refine z_callSi (As := [.ref B]) (st := []) O (s_LAW_errors hfl p_v1 (ke_left hs_v1 (by decide))) wy_L_errors wl_RL_214 dL_law_30 rfl rfl ⟨(Nat.le_of_ble_eq_true rfl), (Nat.le_of_ble_eq_true rfl)⟩ (Nat.le_of_ble_eq_true rfl) ⟨(Nat.le_of_ble_eq_true rfl), (Nat.le_of_ble_eq_true rfl)⟩ (fun r5 z5 G5 hq5 => ?_)
    obtain ⟨v5, p5, f5, hr5, hs5⟩ := hq5
    subst hr5
    have q5 := TA.fr a3_v1 f5 (by omega)
    refine z_if_eq (tgt := 47) O dL_law_33 (by decide) (fun c => absurd c (by decide)) (fun _ => ?_)
    refine z_aload_n O dL_law_36 rfl rfl ?_
    refine z_callSi (As := [.ref B]) (st := []) O (s_LAW_kept hfl p5 (kk_left hs5)) wy_L_kept wl_RL_218 dL_law_37 rfl rfl ⟨(Nat.le_of_ble_eq_true rfl), (Nat.le_of_ble_eq_true rfl)⟩ (Nat.le_of_ble_eq_true rfl) ⟨(Nat.le_of_ble_eq_true rfl), (Nat.le_of_ble_eq_true rfl)⟩ (fun r6 z6 G6 hq6 => ?_)
    obtain ⟨rfl, hr6⟩ := hq6
    subst hr6
    refine z_if_eq (tgt := 47) O dL_law_40 (by decide) (fun c => absurd c (by decide)) (fun _ => ?_)
    refine z_iconst (v := 1) O dL_law_43 (by decide) ?_
    refine z_goto (tgt := 48) O dL_law_44 (by decide) ?_
    refine z_istore_n (L' := [some (.ref b), some (.ref B), some (.ref (B + 475)), some (.int 1), none, none, none]) O dL_law_48 rfl (by decide) rfl ?_
    refine z_iconst (v := 0) O dL_law_49 (by decide) ?_
    refine z_istore (L' := [some (.ref b), some (.ref B), some (.ref (B + 475)), some (.int 1), some (.int 0), none, none]) O dL_law_50 (by decide) rfl ?_
    exact lw_loop hfl O (by omega) hret hlk hN hX hb (by omega) 40 0 _ _ _ v5 w1 G5 rfl (Nat.le_of_ble_eq_true rfl) (Nat.le_of_ble_eq_true rfl) hs5 p5 q5
  exact main s.heap [] ls ⟨rfl, fun a e h => nomatch h⟩ va_S.rf hlv

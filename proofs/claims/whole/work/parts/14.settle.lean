theorem qM.small {b : Nat} {xs f r : List Int32} {fl rl : Nat} {T : mT} (h : qM b xs (f, r, fl, rl, T)) (hb : b < 900) : T.1 < 4 ∧ T.2.1 < 1000 := by
  obtain ⟨k, ok, oF, nF, oR, nR⟩ := T
  obtain ⟨h1, h2, h3, h4, h5⟩ := h
  rcases h5 with ⟨rfl, rfl, -⟩ | ⟨rfl, h6, h7, h8, h9, h10, -⟩ | ⟨rfl, h6, h7, h8, -, -, h11, -⟩ | ⟨rfl, h6, h7, rfl, -⟩
  · exact ⟨by simp, by simp⟩
  · exact ⟨by simp, by show ok < 1000; omega⟩
  · exact ⟨by simp, by show ok < 1000; omega⟩
  · exact ⟨by simp, by simp⟩
theorem k_X5_settle_5 : gCl wsX5_settle 5 RX5 TX5 9 := ⟨by decide +kernel, rfl⟩
theorem m_X5_settle_f32 : Cond.fieldLink RX5 32 "SteadyQueues$Version" "steps" "I" ∈ wsX5_settle := by decide +kernel
theorem m_X5_settle_f12 : Cond.fieldLink RX5 12 "SteadyQueues$Version" "turn" "LSteadyQueues$Turn;" ∈ wsX5_settle := by decide +kernel
theorem hv_X4_step : yX4_step.cls = RX4 ∧ yX4_step.cls ≠ "java/lang/invoke/MethodHandle" ∧ yX4_step.cls ≠ "java/lang/invoke/VarHandle" ∧ (parseMethodDescriptor yX4_step.desc).map (fun d => d.parameters.length) = some 0 := by decide +kernel
set_option maxHeartbeats 4000000 in
set_option maxRecDepth 100000 in
theorem lp_X5_settle {G : gG} {z0 : Nat} {X : gX} {h : gH} {v t dp i m p b mc ms cells slots fl rl : Nat} {par : Option Nat} {pu : Int32} {xs f r : List Int32} {T : mT} (F : gF G z0 X cX5_settle 2 RX5 wsX5_settle none "settle" 3 62 mc ms) (hp : p = i + m) (hp2 : p < 1000) (hcc : cells + 2 * m ≤ mc) (hss : slots + 4 * m ≤ ms) (hb : b < 900) (hM : qM b xs (f, r, fl, rl, T)) (hV : isVt h v t par pu dp (f, r, fl, rl, T) i)
    (K : ∀ h' : gH, isVt h' v t par pu dp (f, r, fl, rl, (tRun m T).1) (i + (tRun m T).2) → gfr [v, t] h h' → gV G z0 X (cells + 2 * m) (slots + 4 * m) h' 85 [(0, .ref v), (1, .int (nI p))] []) : gV G z0 X cells slots h 54 [(0, .ref v), (1, .int (nI p))] [] := by
  induction m generalizing i T h cells slots with
  | zero =>
    obtain ⟨a, b1, hv, ha, hb1, hT⟩ := id hV
    refine v_aload_n (pc' := 55) F dX5_settle_54 rfl (j := 0) rfl rfl ?_
    refine v_getf (pc' := 58) (v := .int (nI i)) F k_X5_settle_5 hv 8 (by decide) m_X5_settle_f32 rfl dX5_settle_55 rfl ?_
    refine v_iload_n (pc' := 59) F dX5_settle_58 rfl (j := 1) rfl rfl ?_
    refine w_icmp_ge (tgt := 85) (pc' := 62) F (by omega) (by omega) dX5_settle_59 (by decide) rfl (fun _ => ?_) (fun c0 => absurd c0 (by omega))
    exact K h hV gfr.rf
  | succ m ih =>
    obtain ⟨a, b1, hv, ha, hb1, hT⟩ := id hV
    obtain ⟨tfs, htk⟩ := hT.kind
    have hsm := hM.small hb
    refine v_aload_n (pc' := 55) F dX5_settle_54 rfl (j := 0) rfl rfl ?_
    refine v_getf (pc' := 58) (v := .int (nI i)) F k_X5_settle_5 hv 8 (by decide) m_X5_settle_f32 rfl dX5_settle_55 rfl ?_
    refine v_iload_n (pc' := 59) F dX5_settle_58 rfl (j := 1) rfl rfl ?_
    refine w_icmp_ge (tgt := 85) (pc' := 62) F (by omega) (by omega) dX5_settle_59 (by decide) rfl (fun c0 => absurd c0 (by omega)) (fun _ => ?_)
    refine v_aload_n (pc' := 63) F dX5_settle_62 rfl (j := 0) rfl rfl ?_
    refine v_getf (pc' := 66) (v := .ref t) F k_X5_settle_5 hv 3 (by decide) m_X5_settle_f12 rfl dX5_settle_63 rfl ?_
    refine v_callV (pc' := 69) (rt := (some .boolean)) (mcc := 2) (msc := 4) (As := []) (st := []) F (fun l => c_X4_step G z0 l hT hsm) gX5_settle_X4_step rfl hv_X4_step (by decide) (by decide) htk rfl rfl rfl (Nat.le_of_ble_eq_true rfl) (by omega) (by omega) dX5_settle_66 rfl (fun v1 h9 hq => ?_)
    rcases hq with ⟨e, rfl, he9⟩ | ⟨T2, e, rfl, hT2, hf2⟩
    · rw [he9]
      refine w_if_eq (tgt := 85) (pc' := 72) F (by omega) dX5_settle_69 (by decide) rfl (fun _ => ?_) (fun c0 => absurd c0 (by omega))
      have e2 : tRun (m + 1) T = (T, 0) := by unfold tRun; rw [e]
      exact v_widen (by omega) (by omega) (K h (by rw [e2]; exact hV) gfr.rf)
    · have e2 : tRun (m + 1) T = ((tRun m T2).1, (tRun m T2).2 + 1) := by rw [tRun, e]
      obtain ⟨tf2, htk2⟩ := hT2.kind
      refine w_if_eq (tgt := 85) (pc' := 72) F (by omega) dX5_settle_69 (by decide) rfl (fun c0 => absurd c0 (by omega)) (fun _ => ?_)
      refine v_aload_n (pc' := 73) F dX5_settle_72 rfl (j := 0) rfl rfl ?_
      refine v_dup (pc' := 74) F dX5_settle_73 rfl rfl ?_
      have g2 := hf2 _ _ (gnc (g_neC hv htk (by decide)) gn0) hv
      refine v_getf (pc' := 77) (v := .int (nI i)) F k_X5_settle_5 g2 8 (by decide) m_X5_settle_f32 rfl dX5_settle_74 rfl ?_
      refine v_iconst (pc' := 78) (v := nI 1) F dX5_settle_77 (by decide) rfl ?_
      refine v_iadd (pc' := 79) (v := nI (i + 1)) F dX5_settle_78 (nI_add i 1) rfl ?_
      refine w_putf (pc' := 82) F k_X5_settle_5 tyX5_ok nmX5 g2 8 (by decide) m_X5_settle_f32 rfl  rfl rfl (show 8 < 9 by decide) [va_rf par, .int pu, .int (nI dp), .ref t, va_rf a, va_rf b1, .int (nI fl), .int (nI rl), .int (nI (i + 1))] rfl dX5_settle_79 rfl (fun h3 a4 f5 => ?_)
      refine v_goto (tgt := 54) F dX5_settle_82 (by decide) ?_
      have fr6 : gfr [v, t] h h3 := (gfr.t (gfr.mono hf2 (by intro q9 z9 m9; apply z9; simp only [List.mem_cons, List.not_mem_nil, or_false] at m9 ⊢; omega)) (gfr.mono f5 (by intro q9 z9 m9; apply z9; simp only [List.mem_cons, List.not_mem_nil, or_false] at m9 ⊢; omega)))
      have pl7 := gfr.pl fr6 (by intro a9 m9 fs9 z9; simp only [List.mem_cons, List.not_mem_nil, or_false] at m9; rcases m9 with rfl | rfl <;> first | (rw [hv] at z9; cases z9) | (rw [htk] at z9; cases z9))
      have fr8 : gfr [v] h9 h3 := f5
      have pl9 := gfr.pl fr8 (by intro a9 m9 fs9 z9; simp only [List.mem_cons, List.not_mem_nil, or_false] at m9; subst m9; (rw [g2] at z9; cases z9))
      refine v_sub (L' := [(0, .ref v), (1, .int (nI p))]) [0, 1] rfl ?_
      have hT3 : isT h3 t T2 := hT2.keep pl9 (fun e9 he9 => fr8 t e9 (gnc (g_neC htk2 g2 (by decide)) gn0) he9)
      exact ih (i := i + 1) (by omega) (by omega) (by omega) (tStep_M hM e).1 ⟨a, b1, a4, ha.keep pl7, hb1.keep pl7, hT3⟩ (fun h7 q1 q2 => v_widen (by omega) (by omega) (K h7 (by rw [e2]; rw [show i + ((tRun m T2).2 + 1) = i + 1 + (tRun m T2).2 by omega]; exact q1) (gfr.t fr6 q2)))
theorem qM.done {b : Nat} {xs f r : List Int32} {fl rl ok : Nat} {oF nF oR nR : List Int32} (h : qM b xs (f, r, fl, rl, (3, ok, oF, nF, oR, nR))) : ok = 0 ∧ oF = [] ∧ nF = [] ∧ oR = [] := by
  obtain ⟨h1, h2, h3, h4, h5⟩ := h
  rcases h5 with ⟨z, -⟩ | ⟨z, -⟩ | ⟨z, -⟩ | ⟨-, -, -, g⟩
  · exact absurd z (by decide)
  · exact absurd z (by decide)
  · exact absurd z (by decide)
  · exact g
theorem qEnd_3 {f r : List Int32} {fl rl ok : Nat} {oF nF oR nR : List Int32} : qEnd (f, r, fl, rl, (3, ok, oF, nF, oR, nR)) = (nR, r, fl, rl, t0) := rfl
theorem qEnd_n {f r : List Int32} {fl rl k ok : Nat} {oF nF oR nR : List Int32} (hk : ¬ k = 3) : qEnd (f, r, fl, rl, (k, ok, oF, nF, oR, nR)) = (f, r, fl, rl, (k, ok, oF, nF, oR, nR)) := if_neg hk
theorem k_X5_settle_4 : gCl wsX5_settle 4 RX4 TX4 6 := ⟨by decide +kernel, rfl⟩
theorem m_X5_settle_f69 : Cond.fieldLink RX5 69 "SteadyQueues$Turn" "kind" "I" ∈ wsX5_settle := by decide +kernel
theorem hv_X4_endWithList : yX4_endWithList.cls = RX4 ∧ yX4_endWithList.cls ≠ "java/lang/invoke/MethodHandle" ∧ yX4_endWithList.cls ≠ "java/lang/invoke/VarHandle" ∧ (parseMethodDescriptor yX4_endWithList.desc).map (fun d => d.parameters.length) = some 0 := by decide +kernel
theorem m_X5_settle_f18 : Cond.fieldLink RX5 18 "SteadyQueues$Version" "front" "LSteadyQueues$Cell;" ∈ wsX5_settle := by decide +kernel
set_option maxHeartbeats 4000000 in
set_option maxRecDepth 100000 in
theorem e_X5_settle {G : gG} {z0 : Nat} {X : gX} {h : gH} {v t dp st p b mc ms cells slots fl rl : Nat} {par : Option Nat} {pu : Int32} {xs f r : List Int32} {T : mT} {post : Option Value → gH → Prop} (F : gF G z0 X cX5_settle 2 RX5 wsX5_settle none "settle" 3 62 mc ms) (E : gE G z0 X post mc ms) (hcc : cells ≤ mc) (hss : slots ≤ ms) (hb : b < 900) (hM : qM b xs (f, r, fl, rl, T)) (hV : isVt h v t par pu dp (f, r, fl, rl, T) st)
    (K : ∀ h' : gH, isVt h' v t par pu dp (qEnd (f, r, fl, rl, T)) st → gfr [v, t] h h' → post none h') : gV G z0 X cells slots h 85 [(0, .ref v), (1, .int (nI p))] [] := by
  obtain ⟨k, ok, oF, nF, oR, nR⟩ := T
  have hsm := hM.small hb
  simp only at hsm
  obtain ⟨hs1, hs2⟩ := hsm
  obtain ⟨a, b1, hv, ha, hb1, hT⟩ := id hV
  obtain ⟨ta, tb, tc, td, ht, hta, htb, htc, htd⟩ := id hT
  by_cases hk : k = 3
  · subst hk
    obtain ⟨rfl, rfl, rfl, rfl⟩ := hM.done
    refine v_aload_n (pc' := 86) F dX5_settle_85 rfl (j := 0) rfl rfl ?_
    refine v_getf (pc' := 89) (v := .ref t) F k_X5_settle_5 hv 3 (by decide) m_X5_settle_f12 rfl dX5_settle_86 rfl ?_
    refine v_getf (pc' := 92) (v := .int (nI 3)) F k_X5_settle_4 ht 0 (by decide) m_X5_settle_f69 rfl dX5_settle_89 rfl ?_
    refine v_iconst (pc' := 93) (v := nI 3) F dX5_settle_92 (by decide) rfl ?_
    refine w_icmp_ne (tgt := 107) (pc' := 96) F (by omega) (by omega) dX5_settle_93 (by decide) rfl (fun c0 => absurd c0 (by omega)) (fun _ => ?_)
    refine v_aload_n (pc' := 97) F dX5_settle_96 rfl (j := 0) rfl rfl ?_
    refine v_aload_n (pc' := 98) F dX5_settle_97 rfl (j := 0) rfl rfl ?_
    refine v_getf (pc' := 101) (v := .ref t) F k_X5_settle_5 hv 3 (by decide) m_X5_settle_f12 rfl dX5_settle_98 rfl ?_
    refine v_callV (pc' := 104) (rt := (some (.object "SteadyQueues$Cell"))) (mcc := 0) (msc := 0) (As := []) (st := [.ref v]) F (fun l => c_X4_endWithList G z0 l hT) gX5_settle_X4_endWithList rfl hv_X4_endWithList (by decide) (by decide) ht rfl rfl rfl (Nat.le_of_ble_eq_true rfl) (by omega) (by omega) dX5_settle_101 rfl (fun v2 h1 hq => ?_)
    obtain ⟨d1, rfl, hd1, hT1, hf1⟩ := hq
    obtain ⟨tf1, htk1⟩ := hT1.kind
    have g3 := hf1 _ _ (gnc (g_neC hv ht (by decide)) gn0) hv
    refine w_putf (pc' := 107) F k_X5_settle_5 tyX5_ok nmX5 g3 4 (by decide) m_X5_settle_f18 rfl  (gnar _ _) (gfit _ _) (show 4 < 9 by decide) [va_rf par, .int pu, .int (nI dp), .ref t, va_rf d1, va_rf b1, .int (nI fl), .int (nI rl), .int (nI st)] rfl dX5_settle_104 rfl (fun h4 a5 f6 => ?_)
    have fr7 : gfr [v, t] h h4 := (gfr.t (gfr.mono hf1 (by intro q9 z9 m9; apply z9; simp only [List.mem_cons, List.not_mem_nil, or_false] at m9 ⊢; omega)) (gfr.mono f6 (by intro q9 z9 m9; apply z9; simp only [List.mem_cons, List.not_mem_nil, or_false] at m9 ⊢; omega)))
    have pl8 := gfr.pl fr7 (by intro a9 m9 fs9 z9; simp only [List.mem_cons, List.not_mem_nil, or_false] at m9; rcases m9 with rfl | rfl <;> first | (rw [hv] at z9; cases z9) | (rw [ht] at z9; cases z9))
    have fr9 : gfr [v] h1 h4 := f6
    have pl10 := gfr.pl fr9 (by intro a9 m9 fs9 z9; simp only [List.mem_cons, List.not_mem_nil, or_false] at m9; subst m9; (rw [g3] at z9; cases z9))
    exact v_vret F E (by omega) (by omega)  dX5_settle_107 (K _ (by rw [qEnd_3]; exact ⟨d1, b1, a5, hd1.keep pl10, hb1.keep pl8, hT1.keep pl10 (fun e9 he9 => fr9 t e9 (gnc (g_neC htk1 g3 (by decide)) gn0) he9)⟩) fr7)
  · have hkk := hk
    refine v_aload_n (pc' := 86) F dX5_settle_85 rfl (j := 0) rfl rfl ?_
    refine v_getf (pc' := 89) (v := .ref t) F k_X5_settle_5 hv 3 (by decide) m_X5_settle_f12 rfl dX5_settle_86 rfl ?_
    refine v_getf (pc' := 92) (v := .int (nI k)) F k_X5_settle_4 ht 0 (by decide) m_X5_settle_f69 rfl dX5_settle_89 rfl ?_
    refine v_iconst (pc' := 93) (v := nI 3) F dX5_settle_92 (by decide) rfl ?_
    refine w_icmp_ne (tgt := 107) (pc' := 96) F (by omega) (by omega) dX5_settle_93 (by decide) rfl (fun _ => ?_) (fun c0 => absurd c0 hk)
    exact v_vret F E (by omega) (by omega)  dX5_settle_107 (K _ (by rw [qEnd_n hk]; exact hV) gfr.rf)
theorem m_X5_settle_f29 : Cond.fieldLink RX5 29 "SteadyQueues$Version" "rearLength" "I" ∈ wsX5_settle := by decide +kernel
theorem m_X5_settle_f25 : Cond.fieldLink RX5 25 "SteadyQueues$Version" "frontLength" "I" ∈ wsX5_settle := by decide +kernel
theorem m_X5_settle_f22 : Cond.fieldLink RX5 22 "SteadyQueues$Version" "rear" "LSteadyQueues$Cell;" ∈ wsX5_settle := by decide +kernel
theorem hv_X4_begin : yX4_begin.cls = RX4 ∧ yX4_begin.cls ≠ "java/lang/invoke/MethodHandle" ∧ yX4_begin.cls ≠ "java/lang/invoke/VarHandle" ∧ (parseMethodDescriptor yX4_begin.desc).map (fun d => d.parameters.length) = some 2 := by decide +kernel
set_option maxHeartbeats 4000000 in
set_option maxRecDepth 100000 in
/-- a version is settled -/
theorem c_X5_settle (G : gG) (z0 : Nat) (l : Launch) {h : gH} {v t dp st : Nat} {par : Option Nat} {pu : Int32} {q : mQ} {p b : Nat} {xs : List Int32} (hp : p < 1000) (hb : b < 900) (hfr : q.2.2.1 < 1000 ∧ q.2.2.2.1 < 1000) (hM : qM b xs (qBegin q)) (hV : isVt h v t par pu dp q st) : gC G z0 l yX5_settle wsX5_settle 3 62 [.ref v, .int (nI p)] h (fun o h' => o = none ∧ isVt h' v t par pu dp (qSettle p q).1 (qSettle p q).2 ∧ gfr [v, t] h h') (2 * p) (4 * p) := by
  obtain ⟨f, r, fl, rl, T⟩ := q
  obtain ⟨a, b1, hv, ha, hb1, hT⟩ := id hV
  obtain ⟨tfs, htk⟩ := hT.kind
  simp only at hfr
  by_cases hlt : fl < rl
  · have hl2 := hlt
    refine gC_of (cc := cX5_settle) (nL := 2) (ret := none) (by decide) rfl (Nat.le_of_ble_eq_true rfl) ?_
    intro X F E _
    change gF G z0 X cX5_settle 2 RX5 wsX5_settle none "settle" 3 62 _ _ at F
    show gV G z0 X 0 0 h 0 [(0, .ref v), (1, .int (nI p))] []
    have eB : qBegin (f, r, fl, rl, T) = (f, [], fl + rl, 0, (1, 0, f, [], r, [])) := if_pos hlt
    rw [eB] at hM
    refine v_aload_n (pc' := 1) F dX5_settle_0 rfl (j := 0) rfl rfl ?_
    refine v_getf (pc' := 4) (v := .int (nI rl)) F k_X5_settle_5 hv 7 (by decide) m_X5_settle_f29 rfl dX5_settle_1 rfl ?_
    refine v_aload_n (pc' := 5) F dX5_settle_4 rfl (j := 0) rfl rfl ?_
    refine v_getf (pc' := 8) (v := .int (nI fl)) F k_X5_settle_5 hv 6 (by decide) m_X5_settle_f25 rfl dX5_settle_5 rfl ?_
    refine w_icmp_le (tgt := 49) (pc' := 11) F (by omega) (by omega) dX5_settle_8 (by decide) rfl (fun c0 => absurd c0 (by omega)) (fun _ => ?_)
    refine v_aload_n (pc' := 12) F dX5_settle_11 rfl (j := 0) rfl rfl ?_
    refine v_getf (pc' := 15) (v := .ref t) F k_X5_settle_5 hv 3 (by decide) m_X5_settle_f12 rfl dX5_settle_12 rfl ?_
    refine v_aload_n (pc' := 16) F dX5_settle_15 rfl (j := 0) rfl rfl ?_
    refine v_getf (pc' := 19) (v := va_rf a) F k_X5_settle_5 hv 4 (by decide) m_X5_settle_f18 rfl dX5_settle_16 rfl ?_
    refine v_aload_n (pc' := 20) F dX5_settle_19 rfl (j := 0) rfl rfl ?_
    refine v_getf (pc' := 23) (v := va_rf b1) F k_X5_settle_5 hv 5 (by decide) m_X5_settle_f22 rfl dX5_settle_20 rfl ?_
    refine v_callV (pc' := 26) (rt := none) (mcc := 0) (msc := 0) (As := [va_rf a, va_rf b1]) (st := []) F (fun l => c_X4_begin G z0 l hT.six ha hb1) gX5_settle_X4_begin rfl hv_X4_begin (by decide) (by decide) htk rfl rfl rfl (Nat.le_of_ble_eq_true rfl) (by omega) (by omega) dX5_settle_23 rfl (fun v2 h1 hq => ?_)
    obtain ⟨rfl, hT1, hf1⟩ := hq
    obtain ⟨tf1, htk1⟩ := hT1.kind
    have g3 := hf1 _ _ (gnc (g_neC hv htk (by decide)) gn0) hv
    refine v_aload_n (pc' := 27) F dX5_settle_26 rfl (j := 0) rfl rfl ?_
    refine v_dup (pc' := 28) F dX5_settle_27 rfl rfl ?_
    refine v_getf (pc' := 31) (v := .int (nI fl)) F k_X5_settle_5 g3 6 (by decide) m_X5_settle_f25 rfl dX5_settle_28 rfl ?_
    refine v_aload_n (pc' := 32) F dX5_settle_31 rfl (j := 0) rfl rfl ?_
    refine v_getf (pc' := 35) (v := .int (nI rl)) F k_X5_settle_5 g3 7 (by decide) m_X5_settle_f29 rfl dX5_settle_32 rfl ?_
    refine v_iadd (pc' := 36) (v := nI (fl + rl)) F dX5_settle_35 (nI_add fl rl) rfl ?_
    refine w_putf (pc' := 39) F k_X5_settle_5 tyX5_ok nmX5 g3 6 (by decide) m_X5_settle_f25 rfl  rfl rfl (show 6 < 9 by decide) [va_rf par, .int pu, .int (nI dp), .ref t, va_rf a, va_rf b1, .int (nI (fl + rl)), .int (nI rl), .int (nI st)] rfl dX5_settle_36 rfl (fun h4 a5 f6 => ?_)
    refine v_aload_n (pc' := 40) F dX5_settle_39 rfl (j := 0) rfl rfl ?_
    refine v_iconst (pc' := 41) (v := nI 0) F dX5_settle_40 (by decide) rfl ?_
    refine w_putf (pc' := 44) F k_X5_settle_5 tyX5_ok nmX5 a5 7 (by decide) m_X5_settle_f29 rfl  rfl rfl (show 7 < 9 by decide) [va_rf par, .int pu, .int (nI dp), .ref t, va_rf a, va_rf b1, .int (nI (fl + rl)), .int (nI 0), .int (nI st)] rfl dX5_settle_41 rfl (fun h7 a8 f9 => ?_)
    refine v_aload_n (pc' := 45) F dX5_settle_44 rfl (j := 0) rfl rfl ?_
    refine v_null (pc' := 46) F dX5_settle_45 rfl ?_
    refine w_putf (pc' := 49) F k_X5_settle_5 tyX5_ok nmX5 a8 5 (by decide) m_X5_settle_f22 rfl  rfl rfl (show 5 < 9 by decide) [va_rf par, .int pu, .int (nI dp), .ref t, va_rf a, .null, .int (nI (fl + rl)), .int (nI 0), .int (nI st)] rfl dX5_settle_46 rfl (fun h10 a11 f12 => ?_)
    refine v_aload_n (pc' := 50) F dX5_settle_49 rfl (j := 0) rfl rfl ?_
    refine v_iconst (pc' := 51) (v := nI 0) F dX5_settle_50 (by decide) rfl ?_
    refine w_putf (pc' := 54) F k_X5_settle_5 tyX5_ok nmX5 a11 8 (by decide) m_X5_settle_f32 rfl  rfl rfl (show 8 < 9 by decide) [va_rf par, .int pu, .int (nI dp), .ref t, va_rf a, .null, .int (nI (fl + rl)), .int (nI 0), .int (nI 0)] rfl dX5_settle_51 rfl (fun h13 a14 f15 => ?_)
    have fr16 : gfr [v, t] h h13 := (gfr.t (gfr.mono hf1 (by intro q9 z9 m9; apply z9; simp only [List.mem_cons, List.not_mem_nil, or_false] at m9 ⊢; omega)) (gfr.t (gfr.mono f6 (by intro q9 z9 m9; apply z9; simp only [List.mem_cons, List.not_mem_nil, or_false] at m9 ⊢; omega)) (gfr.t (gfr.mono f9 (by intro q9 z9 m9; apply z9; simp only [List.mem_cons, List.not_mem_nil, or_false] at m9 ⊢; omega)) (gfr.t (gfr.mono f12 (by intro q9 z9 m9; apply z9; simp only [List.mem_cons, List.not_mem_nil, or_false] at m9 ⊢; omega)) (gfr.mono f15 (by intro q9 z9 m9; apply z9; simp only [List.mem_cons, List.not_mem_nil, or_false] at m9 ⊢; omega))))))
    have pl17 := gfr.pl fr16 (by intro a9 m9 fs9 z9; simp only [List.mem_cons, List.not_mem_nil, or_false] at m9; rcases m9 with rfl | rfl <;> first | (rw [hv] at z9; cases z9) | (rw [htk] at z9; cases z9))
    have fr18 : gfr [v] h1 h13 := (gfr.t f6 (gfr.t f9 (gfr.t f12 f15)))
    have pl19 := gfr.pl fr18 (by intro a9 m9 fs9 z9; simp only [List.mem_cons, List.not_mem_nil, or_false] at m9; subst m9; (rw [g3] at z9; cases z9))
    have hT9 := hT1.keep pl19 (fun e9 he9 => fr18 t e9 (gnc (g_neC htk1 g3 (by decide)) gn0) he9)
    refine lp_X5_settle (i := 0) (m := p) (fl := fl + rl) (rl := 0) (T := (1, 0, f, [], r, [])) F (Nat.zero_add p).symm hp (by omega) (by omega) hb hM ⟨a, none, a14, ha.keep pl17, rfl, hT9⟩ (fun h7 q1 q2 => ?_)
    refine e_X5_settle F E (by omega) (by omega) hb (tRun_M p hM).1 (by rw [Nat.zero_add] at q1; exact q1) (fun h8 q3 q4 => ?_)
    exact ⟨rfl, by unfold qSettle; rw [eB]; exact q3, gfr.t fr16 (gfr.t q2 q4)⟩
  · have hl2 := hlt
    refine gC_of (cc := cX5_settle) (nL := 2) (ret := none) (by decide) rfl (Nat.le_of_ble_eq_true rfl) ?_
    intro X F E _
    change gF G z0 X cX5_settle 2 RX5 wsX5_settle none "settle" 3 62 _ _ at F
    show gV G z0 X 0 0 h 0 [(0, .ref v), (1, .int (nI p))] []
    have eB : qBegin (f, r, fl, rl, T) = (f, r, fl, rl, T) := if_neg hlt
    rw [eB] at hM
    refine v_aload_n (pc' := 1) F dX5_settle_0 rfl (j := 0) rfl rfl ?_
    refine v_getf (pc' := 4) (v := .int (nI rl)) F k_X5_settle_5 hv 7 (by decide) m_X5_settle_f29 rfl dX5_settle_1 rfl ?_
    refine v_aload_n (pc' := 5) F dX5_settle_4 rfl (j := 0) rfl rfl ?_
    refine v_getf (pc' := 8) (v := .int (nI fl)) F k_X5_settle_5 hv 6 (by decide) m_X5_settle_f25 rfl dX5_settle_5 rfl ?_
    refine w_icmp_le (tgt := 49) (pc' := 11) F (by omega) (by omega) dX5_settle_8 (by decide) rfl (fun _ => ?_) (fun c0 => absurd c0 (by omega))
    refine v_aload_n (pc' := 50) F dX5_settle_49 rfl (j := 0) rfl rfl ?_
    refine v_iconst (pc' := 51) (v := nI 0) F dX5_settle_50 (by decide) rfl ?_
    refine w_putf (pc' := 54) F k_X5_settle_5 tyX5_ok nmX5 hv 8 (by decide) m_X5_settle_f32 rfl  rfl rfl (show 8 < 9 by decide) [va_rf par, .int pu, .int (nI dp), .ref t, va_rf a, va_rf b1, .int (nI fl), .int (nI rl), .int (nI 0)] rfl dX5_settle_51 rfl (fun h1 a2 f3 => ?_)
    have fr4 : gfr [v, t] h h1 := (gfr.mono f3 (by intro q9 z9 m9; apply z9; simp only [List.mem_cons, List.not_mem_nil, or_false] at m9 ⊢; omega))
    have fr5 : gfr [v] h h1 := f3
    have pl6 := gfr.pl fr5 (by intro a9 m9 fs9 z9; simp only [List.mem_cons, List.not_mem_nil, or_false] at m9; subst m9; (rw [hv] at z9; cases z9))
    have hT9 := hT.keep pl6 (fun e9 he9 => fr5 t e9 (gnc (g_neC htk hv (by decide)) gn0) he9)
    refine lp_X5_settle (i := 0) (m := p) (fl := fl) (rl := rl) (T := T) F (Nat.zero_add p).symm hp (by omega) (by omega) hb hM ⟨a, b1, a2, ha.keep pl6, hb1.keep pl6, hT9⟩ (fun h7 q1 q2 => ?_)
    refine e_X5_settle F E (by omega) (by omega) hb (tRun_M p hM).1 (by rw [Nat.zero_add] at q1; exact q1) (fun h8 q3 q4 => ?_)
    exact ⟨rfl, by unfold qSettle; rw [eB]; exact q3, gfr.t fr4 (gfr.t q2 q4)⟩

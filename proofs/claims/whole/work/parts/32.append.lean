/-! STEADYQUEUES: THE BYTES -/
def bt (w : Int32) (s : Nat) : Int32 := vp_nar .byte ((w >>> (nI s &&& 31)).toInt8.toInt32)
def b4 (f : Nat → Int32) (k : Nat) (w : Int32) : Nat → Int32 := upd (upd (upd (upd f k (bt w 24)) (k + 1) (bt w 16)) (k + 2) (bt w 8)) (k + 3) (bt w 0)
theorem k_X6_addBytes_6 : gCl wsX6_addBytes 6 RX6 TX6 10 := ⟨by decide +kernel, rfl⟩
theorem m_X6_addBytes_f40 : Cond.fieldLink RX6 40 "SteadyQueues" "bufferLength" "I" ∈ wsX6_addBytes := by decide +kernel
theorem m_X6_addBytes_f9 : Cond.fieldLink RX6 9 "SteadyQueues" "buffer" "[B" ∈ wsX6_addBytes := by decide +kernel
set_option maxHeartbeats 4000000 in
set_option maxRecDepth 100000 in
theorem c_X6_addBytes (G : gG) (z0 : Nat) (l : Launch) {h : gH} {x buf rd bks oq rw orw bl cur und : Nat} {off : Int32} {bk : Nat → Nat} {f : Nat → Int32} (w : Int32) (hx : h x = some (.inr (6, [.ref buf, .ref rd, .ref bks, .ref oq, .ref rw, .ref orw, .int (nI bl), .int off, .int (nI cur), .int (nI und)]))) (hbuf : h buf = some (oB G 500 f)) (hbl : bl + 4 ≤ 500) : gC G z0 l yX6_addBytes wsX6_addBytes 0 0 [.ref x, .int w] h (fun v h' => v = none ∧ h' x = some (.inr (6, [.ref buf, .ref rd, .ref bks, .ref oq, .ref rw, .ref orw, .int (nI (bl + 4)), .int off, .int (nI cur), .int (nI und)])) ∧ h' buf = some (oB G 500 (b4 f bl w)) ∧ gfr [x, buf] h h') 0 0 := by
  refine gC_of (cc := cX6_addBytes) (nL := 3) (ret := none) (by decide) rfl (Nat.le_of_ble_eq_true rfl) ?_
  intro X F E _
  change gF G z0 X cX6_addBytes 3 RX6 wsX6_addBytes none "addBytes" 0 0 _ _ at F
  show gV G z0 X 0 0 h 0 [(0, .ref x), (1, .int w)] []
  refine v_bipush (pc' := 2) (v := nI 24) F dX6_addBytes_0 (by decide) rfl ?_
  refine v_istore_n (pc' := 3) (i := 2) (L' := [(2, .int (nI 24)), (0, .ref x), (1, .int w)]) F dX6_addBytes_2 rfl (by decide) rfl rfl ?_
  refine v_iload_n (pc' := 4) F dX6_addBytes_3 rfl (j := 0) rfl rfl ?_
  refine w_if_lt (tgt := 46) (pc' := 7) F (by omega) dX6_addBytes_4 (by decide) rfl (fun c0 => absurd c0 (by omega)) (fun _ => ?_)
  refine v_aload_n (pc' := 8) F dX6_addBytes_7 rfl (j := 1) rfl rfl ?_
  refine v_getf (pc' := 11) (v := .int (nI bl)) F k_X6_addBytes_6 hx 6 (by decide) m_X6_addBytes_f40 rfl dX6_addBytes_8 rfl ?_
  refine v_sipush (pc' := 14) (v := nI 500) F dX6_addBytes_11 (by decide) rfl ?_
  refine w_icmp_ge (tgt := 40) (pc' := 17) F (by omega) (by omega) dX6_addBytes_14 (by decide) rfl (fun c0 => absurd c0 (by omega)) (fun _ => ?_)
  refine v_aload_n (pc' := 18) F dX6_addBytes_17 rfl (j := 1) rfl rfl ?_
  refine v_getf (pc' := 21) (v := .ref buf) F k_X6_addBytes_6 hx 0 (by decide) m_X6_addBytes_f9 rfl dX6_addBytes_18 rfl ?_
  refine v_aload_n (pc' := 22) F dX6_addBytes_21 rfl (j := 1) rfl rfl ?_
  refine v_getf (pc' := 25) (v := .int (nI bl)) F k_X6_addBytes_6 hx 6 (by decide) m_X6_addBytes_f40 rfl dX6_addBytes_22 rfl ?_
  refine v_iload_n (pc' := 26) F dX6_addBytes_25 rfl (j := 2) rfl rfl ?_
  refine v_iload_n (pc' := 27) F dX6_addBytes_26 rfl (j := 0) rfl rfl ?_
  refine v_ishr (pc' := 28) (v := w >>> ((nI 24) &&& 31)) F dX6_addBytes_27 rfl rfl ?_
  refine v_i2b (pc' := 29) (v := (w >>> ((nI 24) &&& 31)).toInt8.toInt32) F dX6_addBytes_28 rfl rfl ?_
  refine w_bast (pc' := 30) F hbuf (by omega) (by omega) dX6_addBytes_29 rfl (fun h1 a2 f3 => ?_)
  refine v_aload_n (pc' := 31) F dX6_addBytes_30 rfl (j := 1) rfl rfl ?_
  refine v_dup (pc' := 32) F dX6_addBytes_31 rfl rfl ?_
  have g4 := f3 _ _ (gnc (g_neA hx hbuf) gn0) hx
  refine v_getf (pc' := 35) (v := .int (nI bl)) F k_X6_addBytes_6 g4 6 (by decide) m_X6_addBytes_f40 rfl dX6_addBytes_32 rfl ?_
  refine v_iconst (pc' := 36) (v := nI 1) F dX6_addBytes_35 (by decide) rfl ?_
  refine v_iadd (pc' := 37) (v := nI (bl + 1)) F dX6_addBytes_36 (nI_add bl 1) rfl ?_
  refine w_putf (pc' := 40) F k_X6_addBytes_6 tyX6_ok nmX6 g4 6 (by decide) m_X6_addBytes_f40 rfl  rfl rfl (show 6 < 10 by decide) [.ref buf, .ref rd, .ref bks, .ref oq, .ref rw, .ref orw, .int (nI (bl + 1)), .int off, .int (nI cur), .int (nI und)] rfl dX6_addBytes_37 rfl (fun h5 a6 f7 => ?_)
  refine v_iinc (pc' := 43) (j := 0) (x := nI 24) (v := nI 16) (L' := [(2, .int (nI 16)), (0, .ref x), (1, .int w)]) F dX6_addBytes_40 rfl (by decide) (by decide) rfl rfl ?_
  refine v_goto (tgt := 3) F dX6_addBytes_43 (by decide) ?_
  refine v_iload_n (pc' := 4) F dX6_addBytes_3 rfl (j := 0) rfl rfl ?_
  refine w_if_lt (tgt := 46) (pc' := 7) F (by omega) dX6_addBytes_4 (by decide) rfl (fun c0 => absurd c0 (by omega)) (fun _ => ?_)
  refine v_aload_n (pc' := 8) F dX6_addBytes_7 rfl (j := 1) rfl rfl ?_
  refine v_getf (pc' := 11) (v := .int (nI (bl + 1))) F k_X6_addBytes_6 a6 6 (by decide) m_X6_addBytes_f40 rfl dX6_addBytes_8 rfl ?_
  refine v_sipush (pc' := 14) (v := nI 500) F dX6_addBytes_11 (by decide) rfl ?_
  refine w_icmp_ge (tgt := 40) (pc' := 17) F (by omega) (by omega) dX6_addBytes_14 (by decide) rfl (fun c0 => absurd c0 (by omega)) (fun _ => ?_)
  refine v_aload_n (pc' := 18) F dX6_addBytes_17 rfl (j := 1) rfl rfl ?_
  refine v_getf (pc' := 21) (v := .ref buf) F k_X6_addBytes_6 a6 0 (by decide) m_X6_addBytes_f9 rfl dX6_addBytes_18 rfl ?_
  refine v_aload_n (pc' := 22) F dX6_addBytes_21 rfl (j := 1) rfl rfl ?_
  refine v_getf (pc' := 25) (v := .int (nI (bl + 1))) F k_X6_addBytes_6 a6 6 (by decide) m_X6_addBytes_f40 rfl dX6_addBytes_22 rfl ?_
  refine v_iload_n (pc' := 26) F dX6_addBytes_25 rfl (j := 2) rfl rfl ?_
  refine v_iload_n (pc' := 27) F dX6_addBytes_26 rfl (j := 0) rfl rfl ?_
  refine v_ishr (pc' := 28) (v := w >>> ((nI 16) &&& 31)) F dX6_addBytes_27 rfl rfl ?_
  refine v_i2b (pc' := 29) (v := (w >>> ((nI 16) &&& 31)).toInt8.toInt32) F dX6_addBytes_28 rfl rfl ?_
  have g8 := f7 _ _ (gnc (Ne.symm (g_neA g4 a2)) gn0) a2
  refine w_bast (pc' := 30) F g8 (by omega) (by omega) dX6_addBytes_29 rfl (fun h9 a10 f11 => ?_)
  refine v_aload_n (pc' := 31) F dX6_addBytes_30 rfl (j := 1) rfl rfl ?_
  refine v_dup (pc' := 32) F dX6_addBytes_31 rfl rfl ?_
  have g12 := f11 _ _ (gnc (g_neA a6 g8) gn0) a6
  refine v_getf (pc' := 35) (v := .int (nI (bl + 1))) F k_X6_addBytes_6 g12 6 (by decide) m_X6_addBytes_f40 rfl dX6_addBytes_32 rfl ?_
  refine v_iconst (pc' := 36) (v := nI 1) F dX6_addBytes_35 (by decide) rfl ?_
  refine v_iadd (pc' := 37) (v := nI (bl + 2)) F dX6_addBytes_36 (g_eqn (nI_add (bl + 1) 1) (by omega)) rfl ?_
  refine w_putf (pc' := 40) F k_X6_addBytes_6 tyX6_ok nmX6 g12 6 (by decide) m_X6_addBytes_f40 rfl  rfl rfl (show 6 < 10 by decide) [.ref buf, .ref rd, .ref bks, .ref oq, .ref rw, .ref orw, .int (nI (bl + 2)), .int off, .int (nI cur), .int (nI und)] rfl dX6_addBytes_37 rfl (fun h13 a14 f15 => ?_)
  refine v_iinc (pc' := 43) (j := 0) (x := nI 16) (v := nI 8) (L' := [(2, .int (nI 8)), (0, .ref x), (1, .int w)]) F dX6_addBytes_40 rfl (by decide) (by decide) rfl rfl ?_
  refine v_goto (tgt := 3) F dX6_addBytes_43 (by decide) ?_
  refine v_iload_n (pc' := 4) F dX6_addBytes_3 rfl (j := 0) rfl rfl ?_
  refine w_if_lt (tgt := 46) (pc' := 7) F (by omega) dX6_addBytes_4 (by decide) rfl (fun c0 => absurd c0 (by omega)) (fun _ => ?_)
  refine v_aload_n (pc' := 8) F dX6_addBytes_7 rfl (j := 1) rfl rfl ?_
  refine v_getf (pc' := 11) (v := .int (nI (bl + 2))) F k_X6_addBytes_6 a14 6 (by decide) m_X6_addBytes_f40 rfl dX6_addBytes_8 rfl ?_
  refine v_sipush (pc' := 14) (v := nI 500) F dX6_addBytes_11 (by decide) rfl ?_
  refine w_icmp_ge (tgt := 40) (pc' := 17) F (by omega) (by omega) dX6_addBytes_14 (by decide) rfl (fun c0 => absurd c0 (by omega)) (fun _ => ?_)
  refine v_aload_n (pc' := 18) F dX6_addBytes_17 rfl (j := 1) rfl rfl ?_
  refine v_getf (pc' := 21) (v := .ref buf) F k_X6_addBytes_6 a14 0 (by decide) m_X6_addBytes_f9 rfl dX6_addBytes_18 rfl ?_
  refine v_aload_n (pc' := 22) F dX6_addBytes_21 rfl (j := 1) rfl rfl ?_
  refine v_getf (pc' := 25) (v := .int (nI (bl + 2))) F k_X6_addBytes_6 a14 6 (by decide) m_X6_addBytes_f40 rfl dX6_addBytes_22 rfl ?_
  refine v_iload_n (pc' := 26) F dX6_addBytes_25 rfl (j := 2) rfl rfl ?_
  refine v_iload_n (pc' := 27) F dX6_addBytes_26 rfl (j := 0) rfl rfl ?_
  refine v_ishr (pc' := 28) (v := w >>> ((nI 8) &&& 31)) F dX6_addBytes_27 rfl rfl ?_
  refine v_i2b (pc' := 29) (v := (w >>> ((nI 8) &&& 31)).toInt8.toInt32) F dX6_addBytes_28 rfl rfl ?_
  have g16 := f15 _ _ (gnc (Ne.symm (g_neA g12 a10)) gn0) a10
  refine w_bast (pc' := 30) F g16 (by omega) (by omega) dX6_addBytes_29 rfl (fun h17 a18 f19 => ?_)
  refine v_aload_n (pc' := 31) F dX6_addBytes_30 rfl (j := 1) rfl rfl ?_
  refine v_dup (pc' := 32) F dX6_addBytes_31 rfl rfl ?_
  have g20 := f19 _ _ (gnc (g_neA a14 g16) gn0) a14
  refine v_getf (pc' := 35) (v := .int (nI (bl + 2))) F k_X6_addBytes_6 g20 6 (by decide) m_X6_addBytes_f40 rfl dX6_addBytes_32 rfl ?_
  refine v_iconst (pc' := 36) (v := nI 1) F dX6_addBytes_35 (by decide) rfl ?_
  refine v_iadd (pc' := 37) (v := nI (bl + 3)) F dX6_addBytes_36 (g_eqn (nI_add (bl + 2) 1) (by omega)) rfl ?_
  refine w_putf (pc' := 40) F k_X6_addBytes_6 tyX6_ok nmX6 g20 6 (by decide) m_X6_addBytes_f40 rfl  rfl rfl (show 6 < 10 by decide) [.ref buf, .ref rd, .ref bks, .ref oq, .ref rw, .ref orw, .int (nI (bl + 3)), .int off, .int (nI cur), .int (nI und)] rfl dX6_addBytes_37 rfl (fun h21 a22 f23 => ?_)
  refine v_iinc (pc' := 43) (j := 0) (x := nI 8) (v := nI 0) (L' := [(2, .int (nI 0)), (0, .ref x), (1, .int w)]) F dX6_addBytes_40 rfl (by decide) (by decide) rfl rfl ?_
  refine v_goto (tgt := 3) F dX6_addBytes_43 (by decide) ?_
  refine v_iload_n (pc' := 4) F dX6_addBytes_3 rfl (j := 0) rfl rfl ?_
  refine w_if_lt (tgt := 46) (pc' := 7) F (by omega) dX6_addBytes_4 (by decide) rfl (fun c0 => absurd c0 (by omega)) (fun _ => ?_)
  refine v_aload_n (pc' := 8) F dX6_addBytes_7 rfl (j := 1) rfl rfl ?_
  refine v_getf (pc' := 11) (v := .int (nI (bl + 3))) F k_X6_addBytes_6 a22 6 (by decide) m_X6_addBytes_f40 rfl dX6_addBytes_8 rfl ?_
  refine v_sipush (pc' := 14) (v := nI 500) F dX6_addBytes_11 (by decide) rfl ?_
  refine w_icmp_ge (tgt := 40) (pc' := 17) F (by omega) (by omega) dX6_addBytes_14 (by decide) rfl (fun c0 => absurd c0 (by omega)) (fun _ => ?_)
  refine v_aload_n (pc' := 18) F dX6_addBytes_17 rfl (j := 1) rfl rfl ?_
  refine v_getf (pc' := 21) (v := .ref buf) F k_X6_addBytes_6 a22 0 (by decide) m_X6_addBytes_f9 rfl dX6_addBytes_18 rfl ?_
  refine v_aload_n (pc' := 22) F dX6_addBytes_21 rfl (j := 1) rfl rfl ?_
  refine v_getf (pc' := 25) (v := .int (nI (bl + 3))) F k_X6_addBytes_6 a22 6 (by decide) m_X6_addBytes_f40 rfl dX6_addBytes_22 rfl ?_
  refine v_iload_n (pc' := 26) F dX6_addBytes_25 rfl (j := 2) rfl rfl ?_
  refine v_iload_n (pc' := 27) F dX6_addBytes_26 rfl (j := 0) rfl rfl ?_
  refine v_ishr (pc' := 28) (v := w >>> ((nI 0) &&& 31)) F dX6_addBytes_27 rfl rfl ?_
  refine v_i2b (pc' := 29) (v := (w >>> ((nI 0) &&& 31)).toInt8.toInt32) F dX6_addBytes_28 rfl rfl ?_
  have g24 := f23 _ _ (gnc (Ne.symm (g_neA g20 a18)) gn0) a18
  refine w_bast (pc' := 30) F g24 (by omega) (by omega) dX6_addBytes_29 rfl (fun h25 a26 f27 => ?_)
  refine v_aload_n (pc' := 31) F dX6_addBytes_30 rfl (j := 1) rfl rfl ?_
  refine v_dup (pc' := 32) F dX6_addBytes_31 rfl rfl ?_
  have g28 := f27 _ _ (gnc (g_neA a22 g24) gn0) a22
  refine v_getf (pc' := 35) (v := .int (nI (bl + 3))) F k_X6_addBytes_6 g28 6 (by decide) m_X6_addBytes_f40 rfl dX6_addBytes_32 rfl ?_
  refine v_iconst (pc' := 36) (v := nI 1) F dX6_addBytes_35 (by decide) rfl ?_
  refine v_iadd (pc' := 37) (v := nI (bl + 4)) F dX6_addBytes_36 (g_eqn (nI_add (bl + 3) 1) (by omega)) rfl ?_
  refine w_putf (pc' := 40) F k_X6_addBytes_6 tyX6_ok nmX6 g28 6 (by decide) m_X6_addBytes_f40 rfl  rfl rfl (show 6 < 10 by decide) [.ref buf, .ref rd, .ref bks, .ref oq, .ref rw, .ref orw, .int (nI (bl + 4)), .int off, .int (nI cur), .int (nI und)] rfl dX6_addBytes_37 rfl (fun h29 a30 f31 => ?_)
  refine v_iinc (pc' := 43) (j := 0) (x := nI 0) (v := (-8)) (L' := [(2, .int (-8)), (0, .ref x), (1, .int w)]) F dX6_addBytes_40 rfl (by decide) (by decide) rfl rfl ?_
  refine v_goto (tgt := 3) F dX6_addBytes_43 (by decide) ?_
  refine v_iload_n (pc' := 4) F dX6_addBytes_3 rfl (j := 0) rfl rfl ?_
  refine v_if_lt (tgt := 46) (pc' := 7) F dX6_addBytes_4 (by decide) rfl (fun _ => ?_) (fun c0 => absurd (by decide) c0)
  have fr32 : gfr [x, buf] h h29 := (gfr.t (gfr.mono f3 (by intro q9 z9 m9; apply z9; simp only [List.mem_cons, List.not_mem_nil, or_false] at m9 ⊢; omega)) (gfr.t (gfr.mono f7 (by intro q9 z9 m9; apply z9; simp only [List.mem_cons, List.not_mem_nil, or_false] at m9 ⊢; omega)) (gfr.t (gfr.mono f11 (by intro q9 z9 m9; apply z9; simp only [List.mem_cons, List.not_mem_nil, or_false] at m9 ⊢; omega)) (gfr.t (gfr.mono f15 (by intro q9 z9 m9; apply z9; simp only [List.mem_cons, List.not_mem_nil, or_false] at m9 ⊢; omega)) (gfr.t (gfr.mono f19 (by intro q9 z9 m9; apply z9; simp only [List.mem_cons, List.not_mem_nil, or_false] at m9 ⊢; omega)) (gfr.t (gfr.mono f23 (by intro q9 z9 m9; apply z9; simp only [List.mem_cons, List.not_mem_nil, or_false] at m9 ⊢; omega)) (gfr.t (gfr.mono f27 (by intro q9 z9 m9; apply z9; simp only [List.mem_cons, List.not_mem_nil, or_false] at m9 ⊢; omega)) (gfr.mono f31 (by intro q9 z9 m9; apply z9; simp only [List.mem_cons, List.not_mem_nil, or_false] at m9 ⊢; omega)))))))))
  have g33 := f31 _ _ (gnc (Ne.symm (g_neA g28 a26)) gn0) a26
  exact v_vret F E (by omega) (by omega)  dX6_addBytes_46 ⟨rfl, a30, g33, fr32⟩
def b20 (f : Nat → Int32) (k : Nat) (w0 w1 w2 w3 w4 : Int32) : Nat → Int32 := b4 (b4 (b4 (b4 (b4 f k w0) (k + 4) w1) (k + 8) w2) (k + 12) w3) (k + 16) w4
theorem k_X6_append_6 : gCl wsX6_append 6 RX6 TX6 10 := ⟨by decide +kernel, rfl⟩
theorem m_X6_append_f40 : Cond.fieldLink RX6 40 "SteadyQueues" "bufferLength" "I" ∈ wsX6_append := by decide +kernel
theorem hv_X6_addBytes : yX6_addBytes.cls = RX6 ∧ yX6_addBytes.cls ≠ "java/lang/invoke/MethodHandle" ∧ yX6_addBytes.cls ≠ "java/lang/invoke/VarHandle" ∧ (parseMethodDescriptor yX6_addBytes.desc).map (fun d => d.parameters.length) = some 1 := by decide +kernel
set_option maxHeartbeats 4000000 in
set_option maxRecDepth 100000 in
theorem c_X6_append (G : gG) (z0 : Nat) (l : Launch) {h : gH} {x buf rd bks oq rw orw bl cur und : Nat} {off : Int32} {bk : Nat → Nat} {f : Nat → Int32} (w0 w1 w2 w3 w4 : Int32) (hx : h x = some (.inr (6, [.ref buf, .ref rd, .ref bks, .ref oq, .ref rw, .ref orw, .int (nI bl), .int off, .int (nI cur), .int (nI und)]))) (hbuf : h buf = some (oB G 500 f)) (hb5 : bl ≤ 500) : gC G z0 l yX6_append wsX6_append 1 22 [.ref x, .int w0, .int w1, .int w2, .int w3, .int w4] h (fun v h' => if bl + 20 ≤ 500 then v = some (.int (nI (bl + 20))) ∧ h' x = some (.inr (6, [.ref buf, .ref rd, .ref bks, .ref oq, .ref rw, .ref orw, .int (nI (bl + 20)), .int off, .int (nI cur), .int (nI und)])) ∧ h' buf = some (oB G 500 (b20 f bl w0 w1 w2 w3 w4)) ∧ gfr [x, buf] h h' else v = some (.int (-1)) ∧ h' = h) 0 0 := by
  by_cases hbl : bl + 20 ≤ 500
  · have hbl2 := hbl
    refine gC_of (cc := cX6_append) (nL := 6) (ret := (some .int)) (by decide) rfl (Nat.le_of_ble_eq_true rfl) ?_
    intro X F E _
    change gF G z0 X cX6_append 6 RX6 wsX6_append (some .int) "append" 1 22 _ _ at F
    show gV G z0 X 0 0 h 0 [(0, .ref x), (1, .int w0), (2, .int w1), (3, .int w2), (4, .int w3), (5, .int w4)] []
    refine v_aload_n (pc' := 1) F dX6_append_0 rfl (j := 0) rfl rfl ?_
    refine v_getf (pc' := 4) (v := .int (nI bl)) F k_X6_append_6 hx 6 (by decide) m_X6_append_f40 rfl dX6_append_1 rfl ?_
    refine v_bipush (pc' := 6) (v := nI 20) F dX6_append_4 (by decide) rfl ?_
    refine v_iadd (pc' := 7) (v := nI (bl + 20)) F dX6_append_6 (nI_add bl 20) rfl ?_
    refine v_sipush (pc' := 10) (v := nI 500) F dX6_append_7 (by decide) rfl ?_
    refine w_icmp_le (tgt := 15) (pc' := 13) F (by omega) (by omega) dX6_append_10 (by decide) rfl (fun _ => ?_) (fun c0 => absurd c0 (by omega))
    refine v_aload_n (pc' := 16) F dX6_append_15 rfl (j := 0) rfl rfl ?_
    refine v_iload_n (pc' := 17) F dX6_append_16 rfl (j := 1) rfl rfl ?_
    refine v_callV (pc' := 20) (rt := none) (mcc := 0) (msc := 0) (As := [.int w0]) (st := []) F (fun l => c_X6_addBytes (bk := fun _ => 0) G z0 l w0 hx hbuf (by omega)) gX6_append_X6_addBytes rfl hv_X6_addBytes (by decide) (by decide) hx rfl rfl rfl (Nat.le_of_ble_eq_true rfl) (by omega) (by omega) dX6_append_17 rfl (fun v2 h1 hq => ?_)
    obtain ⟨rfl, hx0, hb0, hf0⟩ := hq
    refine v_aload_n (pc' := 21) F dX6_append_20 rfl (j := 0) rfl rfl ?_
    refine v_iload_n (pc' := 22) F dX6_append_21 rfl (j := 2) rfl rfl ?_
    refine v_callV (pc' := 25) (rt := none) (mcc := 0) (msc := 0) (As := [.int w1]) (st := []) F (fun l => c_X6_addBytes (bk := fun _ => 0) G z0 l w1 hx0 hb0 (by omega)) gX6_append_X6_addBytes rfl hv_X6_addBytes (by decide) (by decide) hx0 rfl rfl rfl (Nat.le_of_ble_eq_true rfl) (by omega) (by omega) dX6_append_22 rfl (fun v4 h3 hq => ?_)
    obtain ⟨rfl, hx1, hb1, hf1⟩ := hq
    refine v_aload_n (pc' := 26) F dX6_append_25 rfl (j := 0) rfl rfl ?_
    refine v_iload_n (pc' := 27) F dX6_append_26 rfl (j := 3) rfl rfl ?_
    refine v_callV (pc' := 30) (rt := none) (mcc := 0) (msc := 0) (As := [.int w2]) (st := []) F (fun l => c_X6_addBytes (bk := fun _ => 0) G z0 l w2 hx1 hb1 (by omega)) gX6_append_X6_addBytes rfl hv_X6_addBytes (by decide) (by decide) hx1 rfl rfl rfl (Nat.le_of_ble_eq_true rfl) (by omega) (by omega) dX6_append_27 rfl (fun v6 h5 hq => ?_)
    obtain ⟨rfl, hx2, hb2, hf2⟩ := hq
    refine v_aload_n (pc' := 31) F dX6_append_30 rfl (j := 0) rfl rfl ?_
    refine v_iload (pc' := 33) F dX6_append_31  (j := 4) rfl rfl ?_
    refine v_callV (pc' := 36) (rt := none) (mcc := 0) (msc := 0) (As := [.int w3]) (st := []) F (fun l => c_X6_addBytes (bk := fun _ => 0) G z0 l w3 hx2 hb2 (by omega)) gX6_append_X6_addBytes rfl hv_X6_addBytes (by decide) (by decide) hx2 rfl rfl rfl (Nat.le_of_ble_eq_true rfl) (by omega) (by omega) dX6_append_33 rfl (fun v8 h7 hq => ?_)
    obtain ⟨rfl, hx3, hb3, hf3⟩ := hq
    refine v_aload_n (pc' := 37) F dX6_append_36 rfl (j := 0) rfl rfl ?_
    refine v_iload (pc' := 39) F dX6_append_37  (j := 5) rfl rfl ?_
    refine v_callV (pc' := 42) (rt := none) (mcc := 0) (msc := 0) (As := [.int w4]) (st := []) F (fun l => c_X6_addBytes (bk := fun _ => 0) G z0 l w4 hx3 hb3 (by omega)) gX6_append_X6_addBytes rfl hv_X6_addBytes (by decide) (by decide) hx3 rfl rfl rfl (Nat.le_of_ble_eq_true rfl) (by omega) (by omega) dX6_append_39 rfl (fun v10 h9 hq => ?_)
    obtain ⟨rfl, hx4, hb4, hf4⟩ := hq
    refine v_aload_n (pc' := 43) F dX6_append_42 rfl (j := 0) rfl rfl ?_
    refine v_getf (pc' := 46) (v := .int (nI (bl + 20))) F k_X6_append_6 hx4 6 (by decide) m_X6_append_f40 rfl dX6_append_43 rfl ?_
    have fr11 : gfr [x, buf] h h9 := (gfr.t hf0 (gfr.t hf1 (gfr.t hf2 (gfr.t hf3 hf4))))
    exact v_iret F E (by omega) (by omega)  dX6_append_46 (by rw [if_pos hbl]; exact ⟨rfl, hx4, hb4, fr11⟩)
  · have hbl2 := hbl
    refine gC_of (cc := cX6_append) (nL := 6) (ret := (some .int)) (by decide) rfl (Nat.le_of_ble_eq_true rfl) ?_
    intro X F E _
    change gF G z0 X cX6_append 6 RX6 wsX6_append (some .int) "append" 1 22 _ _ at F
    show gV G z0 X 0 0 h 0 [(0, .ref x), (1, .int w0), (2, .int w1), (3, .int w2), (4, .int w3), (5, .int w4)] []
    refine v_aload_n (pc' := 1) F dX6_append_0 rfl (j := 0) rfl rfl ?_
    refine v_getf (pc' := 4) (v := .int (nI bl)) F k_X6_append_6 hx 6 (by decide) m_X6_append_f40 rfl dX6_append_1 rfl ?_
    refine v_bipush (pc' := 6) (v := nI 20) F dX6_append_4 (by decide) rfl ?_
    refine v_iadd (pc' := 7) (v := nI (bl + 20)) F dX6_append_6 (nI_add bl 20) rfl ?_
    refine v_sipush (pc' := 10) (v := nI 500) F dX6_append_7 (by decide) rfl ?_
    refine w_icmp_le (tgt := 15) (pc' := 13) F (by omega) (by omega) dX6_append_10 (by decide) rfl (fun c0 => absurd c0 (by omega)) (fun _ => ?_)
    refine v_iconst (pc' := 14) (v := (-1)) F dX6_append_13 (by decide) rfl ?_
    exact v_iret F E (by omega) (by omega)  dX6_append_14 (by rw [if_neg hbl]; exact ⟨rfl, rfl⟩)

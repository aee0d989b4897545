/-! THE REFERENCE: its text, by codes -/
theorem v_ldcI {G : gG} {z0 : Nat} {X : gX} {cc : ByteArray} {nL fr lo mc ms : Nat} {own nm : String} {Ts : List Cond} {ret : Option FieldType} {cells slots : Nat} {h : gH} {pc pc' : Nat} {L : List (Nat × Value)} {st : List Value} (F : gF G z0 X cc nL own Ts ret nm fr lo mc ms) {index : Nat} {v : Int32} (hm : Cond.constant own index v ∈ Ts) (d : decode cc pc = .ok (.ldc index, 2)) (hp : pc + 2 = pc') (k : gV G z0 X cells slots h pc' L (.int v :: st)) : gV G z0 X cells slots h pc L st := by
  obtain ⟨p, l, e, R, s, m, args, below, meth, c, Q⟩ := X
  obtain ⟨hx, hb, hml, hown, hts, ⟨hK, hKr⟩, hz, hlk, hr, hnm, hR⟩ := F
  subst hp
  intro H locs ls hG hS hL
  exact lv_ldc hx hb hown (hts _ hm) d (k H locs ls hG hS hL)
/-- the code that a word tells at a shift -/
def tc (w : Int32) (s : Nat) : Nat := (w >>> (nI s &&& 31)).toBitVec.toNat % 256
theorem tc_lt (w : Int32) (s : Nat) : tc w s < 256 := Nat.mod_lt _ (by decide)
theorem tc_and (w : Int32) (s : Nat) : (w >>> (nI s &&& 31)) &&& nI 255 = nI (tc w s) := by
  unfold tc
  generalize w >>> (nI s &&& 31) = x
  apply Int32.toBitVec.inj
  show x.toBitVec &&& BitVec.ofNat 32 255 = BitVec.ofNat 32 (x.toBitVec.toNat % 256)
  apply BitVec.eq_of_toNat_eq
  rw [BitVec.toNat_and, BitVec.toNat_ofNat, BitVec.toNat_ofNat, show 255 % 2 ^ 32 = 2 ^ 8 - 1 from rfl, Nat.and_two_pow_sub_one_eq_mod]
  omega
theorem tc_sb (w : Int32) (s : Nat) : (w >>> (nI s &&& 31)).toInt8.toInt32.toInt8.toInt32 = sb_b (tc w s) := by
  unfold tc sb_b
  generalize w >>> (nI s &&& 31) = x
  have e : x.toInt8 = (nI (x.toBitVec.toNat % 256)).toInt8 := by
    apply Int8.toBitVec.inj
    show x.toBitVec.signExtend 8 = (BitVec.ofNat 32 (x.toBitVec.toNat % 256)).signExtend 8
    rw [BitVec.signExtend_eq_setWidth_of_le _ (by decide), BitVec.signExtend_eq_setWidth_of_le _ (by decide)]
    apply BitVec.eq_of_toNat_eq
    rw [BitVec.toNat_setWidth, BitVec.toNat_setWidth, BitVec.toNat_ofNat]
    omega
  rw [Int8.toInt8_toInt32, e]
theorem bt_tc (w : Int32) (s : Nat) : bt w s = sb_b (tc w s) := tc_sb w s
def t4 (f : Nat → Nat) (k : Nat) (w : Int32) : Nat → Nat := va_up (va_up (va_up (va_up f k (tc w 24)) (k + 1) (tc w 16)) (k + 2) (tc w 8)) (k + 3) (tc w 0)
def t20 (f : Nat → Nat) (k : Nat) (w0 w1 w2 w3 w4 : Int32) : Nat → Nat := t4 (t4 (t4 (t4 (t4 f k w0) (k + 4) w1) (k + 8) w2) (k + 12) w3) (k + 16) w4
theorem k_X7_four_7 : gCl wsX7_four 7 RX7 TX7 26 := ⟨by decide +kernel, rfl⟩
theorem m_X7_four_f34 : Cond.fieldLink RX7 34 "SteadyQueuesModel" "text" "[I" ∈ wsX7_four := by decide +kernel
theorem m_X7_four_f137 : Cond.fieldLink RX7 137 "SteadyQueuesModel" "fed" "I" ∈ wsX7_four := by decide +kernel
set_option maxHeartbeats 4000000 in
set_option maxRecDepth 100000 in
theorem c_X7_four (G : gG) (z0 : Nat) (l : Launch) {h : gH} {m rows asd vals many way told oth lst text : Nat} {th now und fl rl kd ok st wm len spot fa fat num frm may : Int32} {k : Nat} {T : Nat → Int32} (w : Int32) (hm : h m = some (.inr (7, [.int th, .ref rows, .ref asd, .int now, .int und, .ref vals, .ref many, .int fl, .int rl, .int kd, .int ok, .int st, .ref way, .int wm, .ref told, .ref oth, .ref lst, .ref text, .int (nI k), .int len, .int spot, .int fa, .int fat, .int num, .int frm, .int may]))) (htext : h text = some (oI G 500 T)) (hk : k + 4 ≤ 500) : gC G z0 l yX7_four wsX7_four 0 0 [.ref m, .int w] h (fun o h' => o = none ∧ h' m = some (.inr (7, [.int th, .ref rows, .ref asd, .int now, .int und, .ref vals, .ref many, .int fl, .int rl, .int kd, .int ok, .int st, .ref way, .int wm, .ref told, .ref oth, .ref lst, .ref text, .int (nI (k + 4)), .int len, .int spot, .int fa, .int fat, .int num, .int frm, .int may])) ∧ h' text = some (oI G 500 (upd (upd (upd (upd T k (nI (tc w 24))) (k + 1) (nI (tc w 16))) (k + 2) (nI (tc w 8))) (k + 3) (nI (tc w 0)))) ∧ gfr [m, text] h h') 0 0 := by
  refine gC_of (cc := cX7_four) (nL := 3) (ret := none) (by decide) rfl (Nat.le_of_ble_eq_true rfl) ?_
  intro X F E _
  change gF G z0 X cX7_four 3 RX7 wsX7_four none "four" 0 0 _ _ at F
  show gV G z0 X 0 0 h 0 [(0, .ref m), (1, .int w)] []
  refine v_bipush (pc' := 2) (v := nI 24) F dX7_four_0 (by decide) rfl ?_
  refine v_istore_n (pc' := 3) (i := 2) (L' := [(2, .int (nI 24)), (0, .ref m), (1, .int w)]) F dX7_four_2 rfl (by decide) rfl rfl ?_
  refine v_iload_n (pc' := 4) F dX7_four_3 rfl (j := 0) rfl rfl ?_
  refine w_if_lt (tgt := 39) (pc' := 7) F (by omega) dX7_four_4 (by decide) rfl (fun c0 => absurd c0 (by omega)) (fun _ => ?_)
  refine v_aload_n (pc' := 8) F dX7_four_7 rfl (j := 1) rfl rfl ?_
  refine v_getf (pc' := 11) (v := .ref text) F k_X7_four_7 hm 17 (by decide) m_X7_four_f34 rfl dX7_four_8 rfl ?_
  refine v_aload_n (pc' := 12) F dX7_four_11 rfl (j := 1) rfl rfl ?_
  refine v_getf (pc' := 15) (v := .int (nI k)) F k_X7_four_7 hm 18 (by decide) m_X7_four_f137 rfl dX7_four_12 rfl ?_
  refine v_iload_n (pc' := 16) F dX7_four_15 rfl (j := 2) rfl rfl ?_
  refine v_iload_n (pc' := 17) F dX7_four_16 rfl (j := 0) rfl rfl ?_
  refine v_ishr (pc' := 18) (v := w >>> ((nI 24) &&& 31)) F dX7_four_17 rfl rfl ?_
  refine v_sipush (pc' := 21) (v := nI 255) F dX7_four_18 (by decide) rfl ?_
  refine v_iand (pc' := 22) (v := (w >>> ((nI 24) &&& 31)) &&& (nI 255)) F dX7_four_21 rfl rfl ?_
  rw [tc_and w 24]
  refine w_iast (pc' := 23) F htext (by omega) (by omega) dX7_four_22 rfl (fun h1 a2 f3 => ?_)
  refine v_aload_n (pc' := 24) F dX7_four_23 rfl (j := 1) rfl rfl ?_
  refine v_dup (pc' := 25) F dX7_four_24 rfl rfl ?_
  have g4 := f3 _ _ (gnc (g_neA hm htext) gn0) hm
  refine v_getf (pc' := 28) (v := .int (nI k)) F k_X7_four_7 g4 18 (by decide) m_X7_four_f137 rfl dX7_four_25 rfl ?_
  refine v_iconst (pc' := 29) (v := nI 1) F dX7_four_28 (by decide) rfl ?_
  refine v_iadd (pc' := 30) (v := nI (k + 1)) F dX7_four_29 (nI_add k 1) rfl ?_
  refine w_putf (pc' := 33) F k_X7_four_7 tyX7_ok nmX7 g4 18 (by decide) m_X7_four_f137 rfl  rfl rfl (show 18 < 26 by decide) [.int th, .ref rows, .ref asd, .int now, .int und, .ref vals, .ref many, .int fl, .int rl, .int kd, .int ok, .int st, .ref way, .int wm, .ref told, .ref oth, .ref lst, .ref text, .int (nI (k + 1)), .int len, .int spot, .int fa, .int fat, .int num, .int frm, .int may] rfl dX7_four_30 rfl (fun h5 a6 f7 => ?_)
  refine v_iinc (pc' := 36) (j := 0) (x := nI 24) (v := nI 16) (L' := [(2, .int (nI 16)), (0, .ref m), (1, .int w)]) F dX7_four_33 rfl (by decide) (by decide) rfl rfl ?_
  refine v_goto (tgt := 3) F dX7_four_36 (by decide) ?_
  refine v_iload_n (pc' := 4) F dX7_four_3 rfl (j := 0) rfl rfl ?_
  refine w_if_lt (tgt := 39) (pc' := 7) F (by omega) dX7_four_4 (by decide) rfl (fun c0 => absurd c0 (by omega)) (fun _ => ?_)
  refine v_aload_n (pc' := 8) F dX7_four_7 rfl (j := 1) rfl rfl ?_
  refine v_getf (pc' := 11) (v := .ref text) F k_X7_four_7 a6 17 (by decide) m_X7_four_f34 rfl dX7_four_8 rfl ?_
  refine v_aload_n (pc' := 12) F dX7_four_11 rfl (j := 1) rfl rfl ?_
  refine v_getf (pc' := 15) (v := .int (nI (k + 1))) F k_X7_four_7 a6 18 (by decide) m_X7_four_f137 rfl dX7_four_12 rfl ?_
  refine v_iload_n (pc' := 16) F dX7_four_15 rfl (j := 2) rfl rfl ?_
  refine v_iload_n (pc' := 17) F dX7_four_16 rfl (j := 0) rfl rfl ?_
  refine v_ishr (pc' := 18) (v := w >>> ((nI 16) &&& 31)) F dX7_four_17 rfl rfl ?_
  refine v_sipush (pc' := 21) (v := nI 255) F dX7_four_18 (by decide) rfl ?_
  refine v_iand (pc' := 22) (v := (w >>> ((nI 16) &&& 31)) &&& (nI 255)) F dX7_four_21 rfl rfl ?_
  rw [tc_and w 16]
  have g8 := f7 _ _ (gnc (Ne.symm (g_neA g4 a2)) gn0) a2
  refine w_iast (pc' := 23) F g8 (by omega) (by omega) dX7_four_22 rfl (fun h9 a10 f11 => ?_)
  refine v_aload_n (pc' := 24) F dX7_four_23 rfl (j := 1) rfl rfl ?_
  refine v_dup (pc' := 25) F dX7_four_24 rfl rfl ?_
  have g12 := f11 _ _ (gnc (g_neA a6 g8) gn0) a6
  refine v_getf (pc' := 28) (v := .int (nI (k + 1))) F k_X7_four_7 g12 18 (by decide) m_X7_four_f137 rfl dX7_four_25 rfl ?_
  refine v_iconst (pc' := 29) (v := nI 1) F dX7_four_28 (by decide) rfl ?_
  refine v_iadd (pc' := 30) (v := nI (k + 2)) F dX7_four_29 (g_eqn (nI_add (k + 1) 1) (by omega)) rfl ?_
  refine w_putf (pc' := 33) F k_X7_four_7 tyX7_ok nmX7 g12 18 (by decide) m_X7_four_f137 rfl  rfl rfl (show 18 < 26 by decide) [.int th, .ref rows, .ref asd, .int now, .int und, .ref vals, .ref many, .int fl, .int rl, .int kd, .int ok, .int st, .ref way, .int wm, .ref told, .ref oth, .ref lst, .ref text, .int (nI (k + 2)), .int len, .int spot, .int fa, .int fat, .int num, .int frm, .int may] rfl dX7_four_30 rfl (fun h13 a14 f15 => ?_)
  refine v_iinc (pc' := 36) (j := 0) (x := nI 16) (v := nI 8) (L' := [(2, .int (nI 8)), (0, .ref m), (1, .int w)]) F dX7_four_33 rfl (by decide) (by decide) rfl rfl ?_
  refine v_goto (tgt := 3) F dX7_four_36 (by decide) ?_
  refine v_iload_n (pc' := 4) F dX7_four_3 rfl (j := 0) rfl rfl ?_
  refine w_if_lt (tgt := 39) (pc' := 7) F (by omega) dX7_four_4 (by decide) rfl (fun c0 => absurd c0 (by omega)) (fun _ => ?_)
  refine v_aload_n (pc' := 8) F dX7_four_7 rfl (j := 1) rfl rfl ?_
  refine v_getf (pc' := 11) (v := .ref text) F k_X7_four_7 a14 17 (by decide) m_X7_four_f34 rfl dX7_four_8 rfl ?_
  refine v_aload_n (pc' := 12) F dX7_four_11 rfl (j := 1) rfl rfl ?_
  refine v_getf (pc' := 15) (v := .int (nI (k + 2))) F k_X7_four_7 a14 18 (by decide) m_X7_four_f137 rfl dX7_four_12 rfl ?_
  refine v_iload_n (pc' := 16) F dX7_four_15 rfl (j := 2) rfl rfl ?_
  refine v_iload_n (pc' := 17) F dX7_four_16 rfl (j := 0) rfl rfl ?_
  refine v_ishr (pc' := 18) (v := w >>> ((nI 8) &&& 31)) F dX7_four_17 rfl rfl ?_
  refine v_sipush (pc' := 21) (v := nI 255) F dX7_four_18 (by decide) rfl ?_
  refine v_iand (pc' := 22) (v := (w >>> ((nI 8) &&& 31)) &&& (nI 255)) F dX7_four_21 rfl rfl ?_
  rw [tc_and w 8]
  have g16 := f15 _ _ (gnc (Ne.symm (g_neA g12 a10)) gn0) a10
  refine w_iast (pc' := 23) F g16 (by omega) (by omega) dX7_four_22 rfl (fun h17 a18 f19 => ?_)
  refine v_aload_n (pc' := 24) F dX7_four_23 rfl (j := 1) rfl rfl ?_
  refine v_dup (pc' := 25) F dX7_four_24 rfl rfl ?_
  have g20 := f19 _ _ (gnc (g_neA a14 g16) gn0) a14
  refine v_getf (pc' := 28) (v := .int (nI (k + 2))) F k_X7_four_7 g20 18 (by decide) m_X7_four_f137 rfl dX7_four_25 rfl ?_
  refine v_iconst (pc' := 29) (v := nI 1) F dX7_four_28 (by decide) rfl ?_
  refine v_iadd (pc' := 30) (v := nI (k + 3)) F dX7_four_29 (g_eqn (nI_add (k + 2) 1) (by omega)) rfl ?_
  refine w_putf (pc' := 33) F k_X7_four_7 tyX7_ok nmX7 g20 18 (by decide) m_X7_four_f137 rfl  rfl rfl (show 18 < 26 by decide) [.int th, .ref rows, .ref asd, .int now, .int und, .ref vals, .ref many, .int fl, .int rl, .int kd, .int ok, .int st, .ref way, .int wm, .ref told, .ref oth, .ref lst, .ref text, .int (nI (k + 3)), .int len, .int spot, .int fa, .int fat, .int num, .int frm, .int may] rfl dX7_four_30 rfl (fun h21 a22 f23 => ?_)
  refine v_iinc (pc' := 36) (j := 0) (x := nI 8) (v := nI 0) (L' := [(2, .int (nI 0)), (0, .ref m), (1, .int w)]) F dX7_four_33 rfl (by decide) (by decide) rfl rfl ?_
  refine v_goto (tgt := 3) F dX7_four_36 (by decide) ?_
  refine v_iload_n (pc' := 4) F dX7_four_3 rfl (j := 0) rfl rfl ?_
  refine w_if_lt (tgt := 39) (pc' := 7) F (by omega) dX7_four_4 (by decide) rfl (fun c0 => absurd c0 (by omega)) (fun _ => ?_)
  refine v_aload_n (pc' := 8) F dX7_four_7 rfl (j := 1) rfl rfl ?_
  refine v_getf (pc' := 11) (v := .ref text) F k_X7_four_7 a22 17 (by decide) m_X7_four_f34 rfl dX7_four_8 rfl ?_
  refine v_aload_n (pc' := 12) F dX7_four_11 rfl (j := 1) rfl rfl ?_
  refine v_getf (pc' := 15) (v := .int (nI (k + 3))) F k_X7_four_7 a22 18 (by decide) m_X7_four_f137 rfl dX7_four_12 rfl ?_
  refine v_iload_n (pc' := 16) F dX7_four_15 rfl (j := 2) rfl rfl ?_
  refine v_iload_n (pc' := 17) F dX7_four_16 rfl (j := 0) rfl rfl ?_
  refine v_ishr (pc' := 18) (v := w >>> ((nI 0) &&& 31)) F dX7_four_17 rfl rfl ?_
  refine v_sipush (pc' := 21) (v := nI 255) F dX7_four_18 (by decide) rfl ?_
  refine v_iand (pc' := 22) (v := (w >>> ((nI 0) &&& 31)) &&& (nI 255)) F dX7_four_21 rfl rfl ?_
  rw [tc_and w 0]
  have g24 := f23 _ _ (gnc (Ne.symm (g_neA g20 a18)) gn0) a18
  refine w_iast (pc' := 23) F g24 (by omega) (by omega) dX7_four_22 rfl (fun h25 a26 f27 => ?_)
  refine v_aload_n (pc' := 24) F dX7_four_23 rfl (j := 1) rfl rfl ?_
  refine v_dup (pc' := 25) F dX7_four_24 rfl rfl ?_
  have g28 := f27 _ _ (gnc (g_neA a22 g24) gn0) a22
  refine v_getf (pc' := 28) (v := .int (nI (k + 3))) F k_X7_four_7 g28 18 (by decide) m_X7_four_f137 rfl dX7_four_25 rfl ?_
  refine v_iconst (pc' := 29) (v := nI 1) F dX7_four_28 (by decide) rfl ?_
  refine v_iadd (pc' := 30) (v := nI (k + 4)) F dX7_four_29 (g_eqn (nI_add (k + 3) 1) (by omega)) rfl ?_
  refine w_putf (pc' := 33) F k_X7_four_7 tyX7_ok nmX7 g28 18 (by decide) m_X7_four_f137 rfl  rfl rfl (show 18 < 26 by decide) [.int th, .ref rows, .ref asd, .int now, .int und, .ref vals, .ref many, .int fl, .int rl, .int kd, .int ok, .int st, .ref way, .int wm, .ref told, .ref oth, .ref lst, .ref text, .int (nI (k + 4)), .int len, .int spot, .int fa, .int fat, .int num, .int frm, .int may] rfl dX7_four_30 rfl (fun h29 a30 f31 => ?_)
  refine v_iinc (pc' := 36) (j := 0) (x := nI 0) (v := (-8)) (L' := [(2, .int (-8)), (0, .ref m), (1, .int w)]) F dX7_four_33 rfl (by decide) (by decide) rfl rfl ?_
  refine v_goto (tgt := 3) F dX7_four_36 (by decide) ?_
  refine v_iload_n (pc' := 4) F dX7_four_3 rfl (j := 0) rfl rfl ?_
  refine v_if_lt (tgt := 39) (pc' := 7) F dX7_four_4 (by decide) rfl (fun _ => ?_) (fun c0 => absurd (by decide) c0)
  have fr32 : gfr [m, text] h h29 := (gfr.t (gfr.mono f3 (by intro q9 z9 m9; apply z9; simp only [List.mem_cons, List.not_mem_nil, or_false] at m9 ⊢; omega)) (gfr.t (gfr.mono f7 (by intro q9 z9 m9; apply z9; simp only [List.mem_cons, List.not_mem_nil, or_false] at m9 ⊢; omega)) (gfr.t (gfr.mono f11 (by intro q9 z9 m9; apply z9; simp only [List.mem_cons, List.not_mem_nil, or_false] at m9 ⊢; omega)) (gfr.t (gfr.mono f15 (by intro q9 z9 m9; apply z9; simp only [List.mem_cons, List.not_mem_nil, or_false] at m9 ⊢; omega)) (gfr.t (gfr.mono f19 (by intro q9 z9 m9; apply z9; simp only [List.mem_cons, List.not_mem_nil, or_false] at m9 ⊢; omega)) (gfr.t (gfr.mono f23 (by intro q9 z9 m9; apply z9; simp only [List.mem_cons, List.not_mem_nil, or_false] at m9 ⊢; omega)) (gfr.t (gfr.mono f27 (by intro q9 z9 m9; apply z9; simp only [List.mem_cons, List.not_mem_nil, or_false] at m9 ⊢; omega)) (gfr.mono f31 (by intro q9 z9 m9; apply z9; simp only [List.mem_cons, List.not_mem_nil, or_false] at m9 ⊢; omega)))))))))
  have g33 := f31 _ _ (gnc (Ne.symm (g_neA g28 a26)) gn0) a26
  exact v_vret F E (by omega) (by omega)  dX7_four_39 ⟨rfl, a30, g33, fr32⟩
theorem k_X7_append_7 : gCl wsX7_append 7 RX7 TX7 26 := ⟨by decide +kernel, rfl⟩
theorem m_X7_append_f44 : Cond.fieldLink RX7 44 "SteadyQueuesModel" "thrown" "I" ∈ wsX7_append := by decide +kernel
theorem m_X7_append_f137 : Cond.fieldLink RX7 137 "SteadyQueuesModel" "fed" "I" ∈ wsX7_append := by decide +kernel
theorem hv_X7_four : yX7_four.cls = RX7 ∧ yX7_four.cls ≠ "java/lang/invoke/MethodHandle" ∧ yX7_four.cls ≠ "java/lang/invoke/VarHandle" ∧ (parseMethodDescriptor yX7_four.desc).map (fun d => d.parameters.length) = some 1 := by decide +kernel
def T20 (T : Nat → Int32) (k : Nat) (w0 w1 w2 w3 w4 : Int32) : Nat → Int32 := upd (upd (upd (upd (upd (upd (upd (upd (upd (upd (upd (upd (upd (upd (upd (upd (upd (upd (upd (upd T k (nI (tc w0 24))) (k + 1) (nI (tc w0 16))) (k + 2) (nI (tc w0 8))) (k + 3) (nI (tc w0 0))) (k + 4) (nI (tc w1 24))) (k + 4 + 1) (nI (tc w1 16))) (k + 4 + 2) (nI (tc w1 8))) (k + 4 + 3) (nI (tc w1 0))) (k + 8) (nI (tc w2 24))) (k + 8 + 1) (nI (tc w2 16))) (k + 8 + 2) (nI (tc w2 8))) (k + 8 + 3) (nI (tc w2 0))) (k + 12) (nI (tc w3 24))) (k + 12 + 1) (nI (tc w3 16))) (k + 12 + 2) (nI (tc w3 8))) (k + 12 + 3) (nI (tc w3 0))) (k + 16) (nI (tc w4 24))) (k + 16 + 1) (nI (tc w4 16))) (k + 16 + 2) (nI (tc w4 8))) (k + 16 + 3) (nI (tc w4 0))
set_option maxHeartbeats 4000000 in
set_option maxRecDepth 100000 in
theorem c_X7_append (G : gG) (z0 : Nat) (l : Launch) {h : gH} {m rows asd vals many way told oth lst text now : Nat} {th und len spot fa fat num frm may : Int32} {k : Nat} {T R : Nat → Int32} (w0 w1 w2 w3 w4 : Int32) (hMS : mS G h m rows asd vals many way told oth lst text th now und (nI k) len spot fa fat num frm may R) (htext : h text = some (oI G 500 T)) (hk : k ≤ 500) : gC G z0 l yX7_append wsX7_append 1 22 [.ref m, .int w0, .int w1, .int w2, .int w3, .int w4] h (fun o h' => ∃ k' : Int32, mS G h' m rows asd vals many way told oth lst text (nI 0) now und k' len spot fa fat num frm may R ∧ (if k + 20 ≤ 500 then o = some (.int (nI (k + 20))) ∧ k' = nI (k + 20) ∧ h' text = some (oI G 500 (T20 T k w0 w1 w2 w3 w4)) else o = some (.int (-1)) ∧ k' = nI k ∧ h' text = some (oI G 500 T)) ∧ gfr [text, m, vals, many, way, told, oth, lst] h h') 0 0 := by
  obtain ⟨fl, rl, kd, ok, st, wm, hm, hrows, ⟨V, hvals⟩, ⟨M, hmany⟩, ⟨W, hway⟩, ⟨f, htold⟩, ⟨g, hoth⟩, ⟨ll, hlst⟩, htw, how, hto⟩ := hMS
  refine gC_of (cc := cX7_append) (nL := 6) (ret := (some .int)) (by decide) rfl (Nat.le_of_ble_eq_true rfl) ?_
  intro X F E _
  change gF G z0 X cX7_append 6 RX7 wsX7_append (some .int) "append" 1 22 _ _ at F
  show gV G z0 X 0 0 h 0 [(0, .ref m), (1, .int w0), (2, .int w1), (3, .int w2), (4, .int w3), (5, .int w4)] []
  refine v_aload_n (pc' := 1) F dX7_append_0 rfl (j := 0) rfl rfl ?_
  refine v_iconst (pc' := 2) (v := nI 0) F dX7_append_1 (by decide) rfl ?_
  refine w_putf (pc' := 5) F k_X7_append_7 tyX7_ok nmX7 hm 0 (by decide) m_X7_append_f44 rfl  rfl rfl (show 0 < 26 by decide) [.int (nI 0), .ref rows, .ref asd, .int (nI now), .int und, .ref vals, .ref many, .int fl, .int rl, .int kd, .int ok, .int st, .ref way, .int wm, .ref told, .ref oth, .ref lst, .ref text, .int (nI k), .int len, .int spot, .int fa, .int fat, .int num, .int frm, .int may] rfl dX7_append_2 rfl (fun h1 a2 f3 => ?_)
  refine v_aload_n (pc' := 6) F dX7_append_5 rfl (j := 0) rfl rfl ?_
  refine v_getf (pc' := 9) (v := .int (nI k)) F k_X7_append_7 a2 18 (by decide) m_X7_append_f137 rfl dX7_append_6 rfl ?_
  refine v_bipush (pc' := 11) (v := nI 20) F dX7_append_9 (by decide) rfl ?_
  refine v_iadd (pc' := 12) (v := nI (k + 20)) F dX7_append_11 (nI_add k 20) rfl ?_
  refine v_sipush (pc' := 15) (v := nI 500) F dX7_append_12 (by decide) rfl ?_
  refine w_icmp_le (tgt := 20) (pc' := 18) F (by omega) (by omega) dX7_append_15 (by decide) rfl (fun c0 => ?_) (fun c0 => ?_)
  · refine v_aload_n (pc' := 21) F dX7_append_20 rfl (j := 0) rfl rfl ?_
    refine v_iload_n (pc' := 22) F dX7_append_21 rfl (j := 1) rfl rfl ?_
    have g4 := f3 _ _ (gnc (Ne.symm (g_neA hm htext)) gn0) htext
    refine v_callV (pc' := 25) (rt := none) (mcc := 0) (msc := 0) (As := [.int w0]) (st := []) F (fun l => c_X7_four G z0 l (k := k) w0 a2 g4 (by omega)) gX7_append_X7_four rfl hv_X7_four (by decide) (by decide) a2 rfl rfl rfl (Nat.le_of_ble_eq_true rfl) (by omega) (by omega) dX7_append_22 rfl (fun v6 h5 hqf => ?_)
    obtain ⟨rfl, mw0, xw0, rw0⟩ := hqf
    refine v_aload_n (pc' := 26) F dX7_append_25 rfl (j := 0) rfl rfl ?_
    refine v_iload_n (pc' := 27) F dX7_append_26 rfl (j := 2) rfl rfl ?_
    refine v_callV (pc' := 30) (rt := none) (mcc := 0) (msc := 0) (As := [.int w1]) (st := []) F (fun l => c_X7_four G z0 l (k := k + 4) w1 mw0 xw0 (by omega)) gX7_append_X7_four rfl hv_X7_four (by decide) (by decide) mw0 rfl rfl rfl (Nat.le_of_ble_eq_true rfl) (by omega) (by omega) dX7_append_27 rfl (fun v8 h7 hqf => ?_)
    obtain ⟨rfl, mw1, xw1, rw1⟩ := hqf
    refine v_aload_n (pc' := 31) F dX7_append_30 rfl (j := 0) rfl rfl ?_
    refine v_iload_n (pc' := 32) F dX7_append_31 rfl (j := 3) rfl rfl ?_
    refine v_callV (pc' := 35) (rt := none) (mcc := 0) (msc := 0) (As := [.int w2]) (st := []) F (fun l => c_X7_four G z0 l (k := k + 8) w2 mw1 xw1 (by omega)) gX7_append_X7_four rfl hv_X7_four (by decide) (by decide) mw1 rfl rfl rfl (Nat.le_of_ble_eq_true rfl) (by omega) (by omega) dX7_append_32 rfl (fun v10 h9 hqf => ?_)
    obtain ⟨rfl, mw2, xw2, rw2⟩ := hqf
    refine v_aload_n (pc' := 36) F dX7_append_35 rfl (j := 0) rfl rfl ?_
    refine v_iload (pc' := 38) F dX7_append_36  (j := 4) rfl rfl ?_
    refine v_callV (pc' := 41) (rt := none) (mcc := 0) (msc := 0) (As := [.int w3]) (st := []) F (fun l => c_X7_four G z0 l (k := k + 12) w3 mw2 xw2 (by omega)) gX7_append_X7_four rfl hv_X7_four (by decide) (by decide) mw2 rfl rfl rfl (Nat.le_of_ble_eq_true rfl) (by omega) (by omega) dX7_append_38 rfl (fun v12 h11 hqf => ?_)
    obtain ⟨rfl, mw3, xw3, rw3⟩ := hqf
    refine v_aload_n (pc' := 42) F dX7_append_41 rfl (j := 0) rfl rfl ?_
    refine v_iload (pc' := 44) F dX7_append_42  (j := 5) rfl rfl ?_
    refine v_callV (pc' := 47) (rt := none) (mcc := 0) (msc := 0) (As := [.int w4]) (st := []) F (fun l => c_X7_four G z0 l (k := k + 16) w4 mw3 xw3 (by omega)) gX7_append_X7_four rfl hv_X7_four (by decide) (by decide) mw3 rfl rfl rfl (Nat.le_of_ble_eq_true rfl) (by omega) (by omega) dX7_append_44 rfl (fun v14 h13 hqf => ?_)
    obtain ⟨rfl, mw4, xw4, rw4⟩ := hqf
    refine v_aload_n (pc' := 48) F dX7_append_47 rfl (j := 0) rfl rfl ?_
    refine v_getf (pc' := 51) (v := .int (nI (k + 20))) F k_X7_append_7 mw4 18 (by decide) m_X7_append_f137 rfl dX7_append_48 rfl ?_
    have fr15 : gfr [text, m, vals, many, way, told, oth, lst] h h13 := (gfr.t (gfr.mono f3 (by intro q9 z9 m9; apply z9; simp only [List.mem_cons, List.not_mem_nil, or_false] at m9 ⊢; omega)) (gfr.t (gfr.mono rw0 (by intro q9 z9 m9; apply z9; simp only [List.mem_cons, List.not_mem_nil, or_false] at m9 ⊢; omega)) (gfr.t (gfr.mono rw1 (by intro q9 z9 m9; apply z9; simp only [List.mem_cons, List.not_mem_nil, or_false] at m9 ⊢; omega)) (gfr.t (gfr.mono rw2 (by intro q9 z9 m9; apply z9; simp only [List.mem_cons, List.not_mem_nil, or_false] at m9 ⊢; omega)) (gfr.t (gfr.mono rw3 (by intro q9 z9 m9; apply z9; simp only [List.mem_cons, List.not_mem_nil, or_false] at m9 ⊢; omega)) (gfr.mono rw4 (by intro q9 z9 m9; apply z9; simp only [List.mem_cons, List.not_mem_nil, or_false] at m9 ⊢; omega)))))))
    have g16 := f3 _ _ (gnc (Ne.symm (g_neA hm hrows)) gn0) hrows
    have g17 := rw0 _ _ (gnc (Ne.symm (g_neA a2 g16)) (gnc (g_neL g16 g4 (by decide)) gn0)) g16
    have g18 := rw1 _ _ (gnc (Ne.symm (g_neA mw0 g17)) (gnc (g_neL g17 xw0 (by decide)) gn0)) g17
    have g19 := rw2 _ _ (gnc (Ne.symm (g_neA mw1 g18)) (gnc (g_neL g18 xw1 (by decide)) gn0)) g18
    have g20 := rw3 _ _ (gnc (Ne.symm (g_neA mw2 g19)) (gnc (g_neL g19 xw2 (by decide)) gn0)) g19
    have g21 := rw4 _ _ (gnc (Ne.symm (g_neA mw3 g20)) (gnc (g_neL g20 xw3 (by decide)) gn0)) g20
    have g22 := f3 _ _ (gnc (Ne.symm (g_neA hm hvals)) gn0) hvals
    have g23 := rw0 _ _ (gnc (Ne.symm (g_neA a2 g22)) (gnc (g_neL g22 g4 (by decide)) gn0)) g22
    have g24 := rw1 _ _ (gnc (Ne.symm (g_neA mw0 g23)) (gnc (g_neL g23 xw0 (by decide)) gn0)) g23
    have g25 := rw2 _ _ (gnc (Ne.symm (g_neA mw1 g24)) (gnc (g_neL g24 xw1 (by decide)) gn0)) g24
    have g26 := rw3 _ _ (gnc (Ne.symm (g_neA mw2 g25)) (gnc (g_neL g25 xw2 (by decide)) gn0)) g25
    have g27 := rw4 _ _ (gnc (Ne.symm (g_neA mw3 g26)) (gnc (g_neL g26 xw3 (by decide)) gn0)) g26
    have g28 := f3 _ _ (gnc (Ne.symm (g_neA hm hmany)) gn0) hmany
    have g29 := rw0 _ _ (gnc (Ne.symm (g_neA a2 g28)) (gnc (g_neL g28 g4 (by decide)) gn0)) g28
    have g30 := rw1 _ _ (gnc (Ne.symm (g_neA mw0 g29)) (gnc (g_neL g29 xw0 (by decide)) gn0)) g29
    have g31 := rw2 _ _ (gnc (Ne.symm (g_neA mw1 g30)) (gnc (g_neL g30 xw1 (by decide)) gn0)) g30
    have g32 := rw3 _ _ (gnc (Ne.symm (g_neA mw2 g31)) (gnc (g_neL g31 xw2 (by decide)) gn0)) g31
    have g33 := rw4 _ _ (gnc (Ne.symm (g_neA mw3 g32)) (gnc (g_neL g32 xw3 (by decide)) gn0)) g32
    have g34 := f3 _ _ (gnc (Ne.symm (g_neA hm hway)) gn0) hway
    have g35 := rw0 _ _ (gnc (Ne.symm (g_neA a2 g34)) (gnc (g_neL g34 g4 (by decide)) gn0)) g34
    have g36 := rw1 _ _ (gnc (Ne.symm (g_neA mw0 g35)) (gnc (g_neL g35 xw0 (by decide)) gn0)) g35
    have g37 := rw2 _ _ (gnc (Ne.symm (g_neA mw1 g36)) (gnc (g_neL g36 xw1 (by decide)) gn0)) g36
    have g38 := rw3 _ _ (gnc (Ne.symm (g_neA mw2 g37)) (gnc (g_neL g37 xw2 (by decide)) gn0)) g37
    have g39 := rw4 _ _ (gnc (Ne.symm (g_neA mw3 g38)) (gnc (g_neL g38 xw3 (by decide)) gn0)) g38
    have g40 := f3 _ _ (gnc (Ne.symm (g_neA hm htold)) gn0) htold
    have g41 := rw0 _ _ (gnc (Ne.symm (g_neA a2 g40)) (gnc (g_neL g40 g4 (by decide)) gn0)) g40
    have g42 := rw1 _ _ (gnc (Ne.symm (g_neA mw0 g41)) (gnc (g_neL g41 xw0 (by decide)) gn0)) g41
    have g43 := rw2 _ _ (gnc (Ne.symm (g_neA mw1 g42)) (gnc (g_neL g42 xw1 (by decide)) gn0)) g42
    have g44 := rw3 _ _ (gnc (Ne.symm (g_neA mw2 g43)) (gnc (g_neL g43 xw2 (by decide)) gn0)) g43
    have g45 := rw4 _ _ (gnc (Ne.symm (g_neA mw3 g44)) (gnc (g_neL g44 xw3 (by decide)) gn0)) g44
    have g46 := f3 _ _ (gnc (Ne.symm (g_neA hm hoth)) gn0) hoth
    have g47 := rw0 _ _ (gnc (Ne.symm (g_neA a2 g46)) (gnc (g_neL g46 g4 (by decide)) gn0)) g46
    have g48 := rw1 _ _ (gnc (Ne.symm (g_neA mw0 g47)) (gnc (g_neL g47 xw0 (by decide)) gn0)) g47
    have g49 := rw2 _ _ (gnc (Ne.symm (g_neA mw1 g48)) (gnc (g_neL g48 xw1 (by decide)) gn0)) g48
    have g50 := rw3 _ _ (gnc (Ne.symm (g_neA mw2 g49)) (gnc (g_neL g49 xw2 (by decide)) gn0)) g49
    have g51 := rw4 _ _ (gnc (Ne.symm (g_neA mw3 g50)) (gnc (g_neL g50 xw3 (by decide)) gn0)) g50
    have g52 := f3 _ _ (gnc (Ne.symm (g_neA hm hlst)) gn0) hlst
    have g53 := rw0 _ _ (gnc (Ne.symm (g_neA a2 g52)) (gnc (g_neL g52 g4 (by decide)) gn0)) g52
    have g54 := rw1 _ _ (gnc (Ne.symm (g_neA mw0 g53)) (gnc (g_neL g53 xw0 (by decide)) gn0)) g53
    have g55 := rw2 _ _ (gnc (Ne.symm (g_neA mw1 g54)) (gnc (g_neL g54 xw1 (by decide)) gn0)) g54
    have g56 := rw3 _ _ (gnc (Ne.symm (g_neA mw2 g55)) (gnc (g_neL g55 xw2 (by decide)) gn0)) g55
    have g57 := rw4 _ _ (gnc (Ne.symm (g_neA mw3 g56)) (gnc (g_neL g56 xw3 (by decide)) gn0)) g56
    have hx9 := xw4
    exact v_iret F E (by omega) (by omega)  dX7_append_51 ⟨_, ⟨_, _, _, _, _, _, mw4, g21, ⟨_, g27⟩, ⟨_, g33⟩, ⟨_, g39⟩, ⟨_, g45⟩, ⟨_, g51⟩, ⟨_, g57⟩, htw, how, hto⟩, by rw [if_pos (show k + 20 ≤ 500 by omega)]; exact ⟨rfl, rfl, hx9⟩, fr15⟩
  · refine v_iconst (pc' := 19) (v := (-1)) F dX7_append_18 (by decide) rfl ?_
    have fr58 : gfr [text, m, vals, many, way, told, oth, lst] h h1 := (gfr.mono f3 (by intro q9 z9 m9; apply z9; simp only [List.mem_cons, List.not_mem_nil, or_false] at m9 ⊢; omega))
    have g59 := f3 _ _ (gnc (Ne.symm (g_neA hm hrows)) gn0) hrows
    have g60 := f3 _ _ (gnc (Ne.symm (g_neA hm hvals)) gn0) hvals
    have g61 := f3 _ _ (gnc (Ne.symm (g_neA hm hmany)) gn0) hmany
    have g62 := f3 _ _ (gnc (Ne.symm (g_neA hm hway)) gn0) hway
    have g63 := f3 _ _ (gnc (Ne.symm (g_neA hm htold)) gn0) htold
    have g64 := f3 _ _ (gnc (Ne.symm (g_neA hm hoth)) gn0) hoth
    have g65 := f3 _ _ (gnc (Ne.symm (g_neA hm hlst)) gn0) hlst
    have g66 := f3 _ _ (gnc (Ne.symm (g_neA hm htext)) gn0) htext
    have hx9 := g66
    exact v_iret F E (by omega) (by omega)  dX7_append_19 ⟨_, ⟨_, _, _, _, _, _, a2, g59, ⟨_, g60⟩, ⟨_, g61⟩, ⟨_, g62⟩, ⟨_, g63⟩, ⟨_, g64⟩, ⟨_, g65⟩, htw, how, hto⟩, by rw [if_neg (show ¬ k + 20 ≤ 500 by omega)]; exact ⟨rfl, rfl, hx9⟩, fr58⟩
set_option maxHeartbeats 4000000 in
set_option maxRecDepth 100000 in
theorem c_X7_isDigit (G : gG) (z0 : Nat) (l : Launch) {h : gH} {c : Nat} (h256 : c < 256) : gC G z0 l yX7_isDigit wsX7_isDigit 0 0 [.int (nI c)] h (fun v h' => v = some (.int (if 48 ≤ c ∧ c ≤ 57 then nI 1 else nI 0)) ∧ h' = h) 0 0 := by
  refine gC_of (cc := cX7_isDigit) (nL := 1) (ret := (some .boolean)) (by decide) rfl (Nat.le_of_ble_eq_true rfl) ?_
  intro X F E _
  change gF G z0 X cX7_isDigit 1 RX7 wsX7_isDigit (some .boolean) "isDigit" 0 0 _ _ at F
  show gV G z0 X 0 0 h 0 [(0, .int (nI c))] []
  refine v_iload_n (pc' := 1) F dX7_isDigit_0 rfl (j := 0) rfl rfl ?_
  refine v_bipush (pc' := 3) (v := nI 48) F dX7_isDigit_1 (by decide) rfl ?_
  refine w_icmp_lt (tgt := 16) (pc' := 6) F (by omega) (by omega) dX7_isDigit_3 (by decide) rfl (fun c1 => ?_) (fun c1 => ?_)
  · refine v_iconst (pc' := 17) (v := nI 0) F dX7_isDigit_16 (by decide) rfl ?_
    refine v_zret F E (by omega) (by omega) (by decide) dX7_isDigit_17 ?_
    exact ⟨by rw [if_neg (by omega)], rfl⟩
  · refine v_iload_n (pc' := 7) F dX7_isDigit_6 rfl (j := 0) rfl rfl ?_
    refine v_bipush (pc' := 9) (v := nI 57) F dX7_isDigit_7 (by decide) rfl ?_
    refine w_icmp_gt (tgt := 16) (pc' := 12) F (by omega) (by omega) dX7_isDigit_9 (by decide) rfl (fun c2 => ?_) (fun c2 => ?_)
    · refine v_iconst (pc' := 17) (v := nI 0) F dX7_isDigit_16 (by decide) rfl ?_
      refine v_zret F E (by omega) (by omega) (by decide) dX7_isDigit_17 ?_
      exact ⟨by rw [if_neg (by omega)], rfl⟩
    · refine v_iconst (pc' := 13) (v := nI 1) F dX7_isDigit_12 (by decide) rfl ?_
      refine v_goto (tgt := 17) F dX7_isDigit_13 (by decide) ?_
      refine v_zret F E (by omega) (by omega) (by decide) dX7_isDigit_17 ?_
      exact ⟨by rw [if_pos (by omega)], rfl⟩
set_option maxHeartbeats 4000000 in
set_option maxRecDepth 100000 in
theorem c_X7_isSmall (G : gG) (z0 : Nat) (l : Launch) {h : gH} {c : Nat} (h256 : c < 256) : gC G z0 l yX7_isSmall wsX7_isSmall 0 0 [.int (nI c)] h (fun v h' => v = some (.int (if 97 ≤ c ∧ c ≤ 122 then nI 1 else nI 0)) ∧ h' = h) 0 0 := by
  refine gC_of (cc := cX7_isSmall) (nL := 1) (ret := (some .boolean)) (by decide) rfl (Nat.le_of_ble_eq_true rfl) ?_
  intro X F E _
  change gF G z0 X cX7_isSmall 1 RX7 wsX7_isSmall (some .boolean) "isSmall" 0 0 _ _ at F
  show gV G z0 X 0 0 h 0 [(0, .int (nI c))] []
  refine v_iload_n (pc' := 1) F dX7_isSmall_0 rfl (j := 0) rfl rfl ?_
  refine v_bipush (pc' := 3) (v := nI 97) F dX7_isSmall_1 (by decide) rfl ?_
  refine w_icmp_lt (tgt := 16) (pc' := 6) F (by omega) (by omega) dX7_isSmall_3 (by decide) rfl (fun c1 => ?_) (fun c1 => ?_)
  · refine v_iconst (pc' := 17) (v := nI 0) F dX7_isSmall_16 (by decide) rfl ?_
    refine v_zret F E (by omega) (by omega) (by decide) dX7_isSmall_17 ?_
    exact ⟨by rw [if_neg (by omega)], rfl⟩
  · refine v_iload_n (pc' := 7) F dX7_isSmall_6 rfl (j := 0) rfl rfl ?_
    refine v_bipush (pc' := 9) (v := nI 122) F dX7_isSmall_7 (by decide) rfl ?_
    refine w_icmp_gt (tgt := 16) (pc' := 12) F (by omega) (by omega) dX7_isSmall_9 (by decide) rfl (fun c2 => ?_) (fun c2 => ?_)
    · refine v_iconst (pc' := 17) (v := nI 0) F dX7_isSmall_16 (by decide) rfl ?_
      refine v_zret F E (by omega) (by omega) (by decide) dX7_isSmall_17 ?_
      exact ⟨by rw [if_neg (by omega)], rfl⟩
    · refine v_iconst (pc' := 13) (v := nI 1) F dX7_isSmall_12 (by decide) rfl ?_
      refine v_goto (tgt := 17) F dX7_isSmall_13 (by decide) ?_
      refine v_zret F E (by omega) (by omega) (by decide) dX7_isSmall_17 ?_
      exact ⟨by rw [if_pos (by omega)], rfl⟩
set_option maxHeartbeats 4000000 in
set_option maxRecDepth 100000 in
theorem c9_X7_isDigit (G : gG) (z0 : Nat) (l : Launch) {h : gH} : gC G z0 l yX7_isDigit wsX7_isDigit 0 0 [.int (-1)] h (fun v h' => v = some (.int (nI 0)) ∧ h' = h) 0 0 := by
  refine gC_of (cc := cX7_isDigit) (nL := 1) (ret := (some .boolean)) (by decide) rfl (Nat.le_of_ble_eq_true rfl) ?_
  intro X F E _
  change gF G z0 X cX7_isDigit 1 RX7 wsX7_isDigit (some .boolean) "isDigit" 0 0 _ _ at F
  show gV G z0 X 0 0 h 0 [(0, .int (-1))] []
  refine v_iload_n (pc' := 1) F dX7_isDigit_0 rfl (j := 0) rfl rfl ?_
  refine v_bipush (pc' := 3) (v := nI 48) F dX7_isDigit_1 (by decide) rfl ?_
  refine v_icmp_lt (tgt := 16) (pc' := 6) F dX7_isDigit_3 (by decide) rfl (fun _ => ?_) (fun c0 => absurd (by decide) c0)
  refine v_iconst (pc' := 17) (v := nI 0) F dX7_isDigit_16 (by decide) rfl ?_
  refine v_zret F E (by omega) (by omega) (by decide) dX7_isDigit_17 ?_
  exact ⟨rfl, rfl⟩
theorem k_X7_fails_7 : gCl wsX7_fails 7 RX7 TX7 26 := ⟨by decide +kernel, rfl⟩
theorem m_X7_fails_f143 : Cond.fieldLink RX7 143 "SteadyQueuesModel" "fault" "I" ∈ wsX7_fails := by decide +kernel
theorem m_X7_fails_f37 : Cond.fieldLink RX7 37 "SteadyQueuesModel" "faultAt" "I" ∈ wsX7_fails := by decide +kernel
set_option maxHeartbeats 4000000 in
set_option maxRecDepth 100000 in
theorem c_X7_fails (G : gG) (z0 : Nat) (l : Launch) {h : gH} {m rows asd vals many way told oth lst text : Nat} {th now und fl rl kd ok st wm fed len spot num frm may : Int32} {fat : Int32} (co at9 : Int32) (hm : h m = some (.inr (7, [.int th, .ref rows, .ref asd, .int now, .int und, .ref vals, .ref many, .int fl, .int rl, .int kd, .int ok, .int st, .ref way, .int wm, .ref told, .ref oth, .ref lst, .ref text, .int fed, .int len, .int spot, .int (nI 0), .int fat, .int num, .int frm, .int may]))) : gC G z0 l yX7_fails wsX7_fails 0 0 [.ref m, .int co, .int at9] h (fun v h' => v = some (.int (nI 0)) ∧ h' m = some (.inr (7, [.int th, .ref rows, .ref asd, .int now, .int und, .ref vals, .ref many, .int fl, .int rl, .int kd, .int ok, .int st, .ref way, .int wm, .ref told, .ref oth, .ref lst, .ref text, .int fed, .int len, .int spot, .int co, .int at9, .int num, .int frm, .int may])) ∧ gfr [m] h h') 0 0 := by
  refine gC_of (cc := cX7_fails) (nL := 3) (ret := (some .boolean)) (by decide) rfl (Nat.le_of_ble_eq_true rfl) ?_
  intro X F E _
  change gF G z0 X cX7_fails 3 RX7 wsX7_fails (some .boolean) "fails" 0 0 _ _ at F
  show gV G z0 X 0 0 h 0 [(0, .ref m), (1, .int co), (2, .int at9)] []
  refine v_aload_n (pc' := 1) F dX7_fails_0 rfl (j := 0) rfl rfl ?_
  refine v_getf (pc' := 4) (v := .int (nI 0)) F k_X7_fails_7 hm 21 (by decide) m_X7_fails_f143 rfl dX7_fails_1 rfl ?_
  refine w_if_eq (tgt := 9) (pc' := 7) F (by omega) dX7_fails_4 (by decide) rfl (fun _ => ?_) (fun c0 => absurd c0 (by omega))
  refine v_aload_n (pc' := 10) F dX7_fails_9 rfl (j := 0) rfl rfl ?_
  refine v_iload_n (pc' := 11) F dX7_fails_10 rfl (j := 1) rfl rfl ?_
  refine w_putf (pc' := 14) F k_X7_fails_7 tyX7_ok nmX7 hm 21 (by decide) m_X7_fails_f143 rfl  rfl rfl (show 21 < 26 by decide) [.int th, .ref rows, .ref asd, .int now, .int und, .ref vals, .ref many, .int fl, .int rl, .int kd, .int ok, .int st, .ref way, .int wm, .ref told, .ref oth, .ref lst, .ref text, .int fed, .int len, .int spot, .int co, .int fat, .int num, .int frm, .int may] rfl dX7_fails_11 rfl (fun h1 a2 f3 => ?_)
  refine v_aload_n (pc' := 15) F dX7_fails_14 rfl (j := 0) rfl rfl ?_
  refine v_iload_n (pc' := 16) F dX7_fails_15 rfl (j := 2) rfl rfl ?_
  refine w_putf (pc' := 19) F k_X7_fails_7 tyX7_ok nmX7 a2 22 (by decide) m_X7_fails_f37 rfl  rfl rfl (show 22 < 26 by decide) [.int th, .ref rows, .ref asd, .int now, .int und, .ref vals, .ref many, .int fl, .int rl, .int kd, .int ok, .int st, .ref way, .int wm, .ref told, .ref oth, .ref lst, .ref text, .int fed, .int len, .int spot, .int co, .int at9, .int num, .int frm, .int may] rfl dX7_fails_16 rfl (fun h4 a5 f6 => ?_)
  refine v_iconst (pc' := 20) (v := nI 0) F dX7_fails_19 (by decide) rfl ?_
  have fr7 : gfr [m] h h4 := (gfr.t f3 f6)
  refine v_zret F E (by omega) (by omega) (by decide) dX7_fails_20 ?_
  exact ⟨rfl, a5, fr7⟩

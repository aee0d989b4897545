theorem fHas.mid {f : Nat → Int32} {p : Nat} {a b : List Int32} {y : Int32} (h : fHas f p (a ++ y :: b)) : f (p + a.length) = y := by
  rw [h a.length (by simp), gd_r (Nat.le_refl _), Nat.sub_self]; rfl
theorem fHas.tl {f : Nat → Int32} {p : Nat} {b : List Int32} {y : Int32} (h : fHas f p (y :: b)) : fHas f (p + 1) b := fun j hj => by
  have := h (j + 1) (by simpa using hj)
  rw [show p + 1 + j = p + (j + 1) by omega, this]; rfl
theorem fHas.hd {f : Nat → Int32} {p : Nat} {b : List Int32} {y : Int32} (h : fHas f p (y :: b)) : f p = y := h 0 (by simp)
theorem fHas.hdE {f : Nat → Int32} {p : Nat} {b : List Int32} {y : Int32} (h : fHas f p (y :: b)) : f p = y := by have := h 0 (by simp); simpa using this
set_option maxHeartbeats 4000000 in
set_option maxRecDepth 100000 in
theorem lpA_X5_valuesByWayInto {G : gG} {z0 : Nat} {X : gX} {h : gH} {mc ms cells slots v w N : Nat} {f : Nat → Int32} {i c m : Nat} {ys : List Int32} (F : gF G z0 X cX5_valuesByWayInto 6 RX5 wsX5_valuesByWayInto (some .int) "valuesByWayInto" 1 23 mc ms) (hN : N < 65536) (hw : h w = some (oI G N f)) (hF : fHas f i ys) (hm : i + ys.length = m) (hmN : m ≤ N) (hc : c + ys.length < 65536) (K : gV G z0 X cells slots h 34 [(4, .int (nI m)), (3, .int (nI (c + cP ys))), (2, .int (nI m)), (1, .ref w), (0, .ref v)] []) : gV G z0 X cells slots h 11 [(4, .int (nI i)), (3, .int (nI c)), (2, .int (nI m)), (1, .ref w), (0, .ref v)] [] := by
  induction ys generalizing i c with
  | nil =>
    simp only [List.length_nil] at hm
    refine v_iload (pc' := 13) F dX5_valuesByWayInto_11  (j := 0) rfl rfl ?_
    refine v_iload_n (pc' := 14) F dX5_valuesByWayInto_13 rfl (j := 2) rfl rfl ?_
    refine w_icmp_ge (tgt := 34) (pc' := 17) F (by omega) (by omega) dX5_valuesByWayInto_14 (by decide) rfl (fun _ => ?_) (fun c0 => absurd c0 (by omega))
    rw [show i = m by omega]; exact K
  | cons y ys ih =>
    simp only [List.length_cons] at hm hc
    have hy := hF.hdE
    refine v_iload (pc' := 13) F dX5_valuesByWayInto_11  (j := 0) rfl rfl ?_
    refine v_iload_n (pc' := 14) F dX5_valuesByWayInto_13 rfl (j := 2) rfl rfl ?_
    refine w_icmp_ge (tgt := 34) (pc' := 17) F (by omega) (by omega) dX5_valuesByWayInto_14 (by decide) rfl (fun c0 => absurd c0 (by omega)) (fun _ => ?_)
    refine v_aload_n (pc' := 18) F dX5_valuesByWayInto_17 rfl (j := 3) rfl rfl ?_
    refine v_iload (pc' := 20) F dX5_valuesByWayInto_18  (j := 0) rfl rfl ?_
    refine w_iald (pc' := 21) (v := y) F hw (by omega) (by omega) hy dX5_valuesByWayInto_20 rfl ?_
    refine v_iconst (pc' := 22) (v := (-1)) F dX5_valuesByWayInto_21 (by decide) rfl ?_
    refine v_icmp_ne (tgt := 28) (pc' := 25) F dX5_valuesByWayInto_22 (by decide) rfl (fun c0 => ?_) (fun c0 => ?_)
    · refine v_iinc (pc' := 31) (j := 0) (x := nI i) (v := nI (i + 1)) (L' := [(4, .int (nI (i + 1))), (3, .int (nI c)), (2, .int (nI m)), (1, .ref w), (0, .ref v)]) F dX5_valuesByWayInto_28 rfl (nI_add i 1) (by decide) rfl rfl ?_
      refine v_goto (tgt := 11) F dX5_valuesByWayInto_31 (by decide) ?_
      refine v_sub (L' := [(4, .int (nI (i + 1))), (3, .int (nI c)), (2, .int (nI m)), (1, .ref w), (0, .ref v)]) [0, 1, 2, 3, 4] rfl ?_
      exact ih (i := i + 1) hF.tl (by omega) (by omega) (by simp only [cP, if_neg c0] at K; exact K)
    · refine v_iinc (pc' := 28) (j := 1) (x := nI c) (v := nI (c + 1)) (L' := [(3, .int (nI (c + 1))), (4, .int (nI i)), (2, .int (nI m)), (1, .ref w), (0, .ref v)]) F dX5_valuesByWayInto_25 rfl (nI_add c 1) (by decide) rfl rfl ?_
      refine v_iinc (pc' := 31) (j := 1) (x := nI i) (v := nI (i + 1)) (L' := [(4, .int (nI (i + 1))), (3, .int (nI (c + 1))), (2, .int (nI m)), (1, .ref w), (0, .ref v)]) F dX5_valuesByWayInto_28 rfl (nI_add i 1) (by decide) rfl rfl ?_
      refine v_goto (tgt := 11) F dX5_valuesByWayInto_31 (by decide) ?_
      refine v_sub (L' := [(4, .int (nI (i + 1))), (3, .int (nI (c + 1))), (2, .int (nI m)), (1, .ref w), (0, .ref v)]) [0, 1, 2, 3, 4] rfl ?_
      exact ih (i := i + 1) (c := c + 1) hF.tl (by omega) (by omega) (by simp only [cP, if_pos c0] at K; rw [Nat.add_assoc, Nat.add_comm 1]; exact K)
set_option maxHeartbeats 4000000 in
set_option maxRecDepth 100000 in
theorem lpB_X5_valuesByWayInto {G : gG} {z0 : Nat} {X : gX} {h : gH} {mc ms cells slots v w N : Nat} {f : Nat → Int32} {i c m : Nat} {ys rs : List Int32} (F : gF G z0 X cX5_valuesByWayInto 6 RX5 wsX5_valuesByWayInto (some .int) "valuesByWayInto" 1 23 mc ms) (hN : N < 65536) (hc0 : c < 65536) (hw : h w = some (oI G N f)) (hF : fHas f i ys) (hR : fHas f 0 rs) (hri : rs.length ≤ i) (hm : i + ys.length = m) (hmN : m ≤ N) (K : ∀ (h' : gH) (f' : Nat → Int32) (i' c' : Nat), h' w = some (oI G N f') → gfr [w] h h' → fHas f' 0 (rs ++ cW ys c) → ∀ k' : Nat, k' = rs.length + (cW ys c).length → gV G z0 X cells slots h' 81 [(5, .int (nI i')), (4, .int (nI k')), (3, .int (nI c')), (2, .int (nI m)), (1, .ref w), (0, .ref v)] []) : gV G z0 X cells slots h 40 [(5, .int (nI i)), (4, .int (nI rs.length)), (3, .int (nI c)), (2, .int (nI m)), (1, .ref w), (0, .ref v)] [] := by
  induction ys generalizing i c rs f h with
  | nil =>
    simp only [List.length_nil] at hm
    refine v_iload (pc' := 42) F dX5_valuesByWayInto_40  (j := 0) rfl rfl ?_
    refine v_iload_n (pc' := 43) F dX5_valuesByWayInto_42 rfl (j := 3) rfl rfl ?_
    refine w_icmp_ge (tgt := 81) (pc' := 46) F (by omega) (by omega) dX5_valuesByWayInto_43 (by decide) rfl (fun _ => ?_) (fun c0 => absurd c0 (by omega))
    exact K h f i c hw gfr.rf (by simpa [cW] using hR) rs.length (by simp [cW])
  | cons y ys ih =>
    simp only [List.length_cons] at hm
    have hy := hF.hdE
    refine v_iload (pc' := 42) F dX5_valuesByWayInto_40  (j := 0) rfl rfl ?_
    refine v_iload_n (pc' := 43) F dX5_valuesByWayInto_42 rfl (j := 3) rfl rfl ?_
    refine w_icmp_ge (tgt := 81) (pc' := 46) F (by omega) (by omega) dX5_valuesByWayInto_43 (by decide) rfl (fun c0 => absurd c0 (by omega)) (fun _ => ?_)
    refine v_aload_n (pc' := 47) F dX5_valuesByWayInto_46 rfl (j := 4) rfl rfl ?_
    refine v_iload (pc' := 49) F dX5_valuesByWayInto_47  (j := 0) rfl rfl ?_
    refine w_iald (pc' := 50) (v := y) F hw (by omega) (by omega) hy dX5_valuesByWayInto_49 rfl ?_
    refine v_iconst (pc' := 51) (v := (-1)) F dX5_valuesByWayInto_50 (by decide) rfl ?_
    refine v_icmp_eq (tgt := 75) (pc' := 54) F dX5_valuesByWayInto_51 (by decide) rfl (fun c0 => ?_) (fun c0 => ?_)
    · refine v_iinc (pc' := 78) (j := 0) (x := nI i) (v := nI (i + 1)) (L' := [(5, .int (nI (i + 1))), (4, .int (nI rs.length)), (3, .int (nI c)), (2, .int (nI m)), (1, .ref w), (0, .ref v)]) F dX5_valuesByWayInto_75 rfl (nI_add i 1) (by decide) rfl rfl ?_
      refine v_goto (tgt := 40) F dX5_valuesByWayInto_78 (by decide) ?_
      refine v_sub (L' := [(5, .int (nI (i + 1))), (4, .int (nI rs.length)), (3, .int (nI c)), (2, .int (nI m)), (1, .ref w), (0, .ref v)]) [0, 1, 2, 3, 4, 5] rfl ?_
      exact ih (i := i + 1) hc0 hw hF.tl hR (by omega) (by omega) (fun h' f' i' c' q1 q2 q3 k' q4 => K h' f' i' c' q1 q2 (by simp only [cW, if_pos c0]; exact q3) k' (by simp only [cW, if_pos c0]; exact q4))
    · refine v_iload_n (pc' := 55) F dX5_valuesByWayInto_54 rfl (j := 2) rfl rfl ?_
      refine w_if_le (tgt := 64) (pc' := 58) F (by omega) dX5_valuesByWayInto_55 (by decide) rfl (fun c1 => ?_) (fun c1 => ?_)
      · refine v_aload_n (pc' := 65) F dX5_valuesByWayInto_64 rfl (j := 4) rfl rfl ?_
        refine v_iload (pc' := 67) F dX5_valuesByWayInto_65  (j := 1) rfl rfl ?_
        refine v_aload_n (pc' := 68) F dX5_valuesByWayInto_67 rfl (j := 4) rfl rfl ?_
        refine v_iload (pc' := 70) F dX5_valuesByWayInto_68  (j := 0) rfl rfl ?_
        refine w_iald (pc' := 71) (v := y) F hw (by omega) (by omega) hy dX5_valuesByWayInto_70 rfl ?_
        refine w_iast (pc' := 72) F hw (by omega) (by omega) dX5_valuesByWayInto_71 rfl (fun h1 a2 f3 => ?_)
        refine v_iinc (pc' := 75) (j := 1) (x := nI rs.length) (v := nI (rs.length + 1)) (L' := [(4, .int (nI (rs.length + 1))), (5, .int (nI i)), (3, .int (nI c)), (2, .int (nI m)), (1, .ref w), (0, .ref v)]) F dX5_valuesByWayInto_72 rfl (nI_add rs.length 1) (by decide) rfl rfl ?_
        refine v_iinc (pc' := 78) (j := 1) (x := nI i) (v := nI (i + 1)) (L' := [(5, .int (nI (i + 1))), (4, .int (nI (rs.length + 1))), (3, .int (nI c)), (2, .int (nI m)), (1, .ref w), (0, .ref v)]) F dX5_valuesByWayInto_75 rfl (nI_add i 1) (by decide) rfl rfl ?_
        refine v_goto (tgt := 40) F dX5_valuesByWayInto_78 (by decide) ?_
        have fr4 : gfr [w] h h1 := f3
        refine v_sub (L' := [(5, .int (nI (i + 1))), (4, .int (nI (rs.length + 1))), (3, .int (nI c)), (2, .int (nI m)), (1, .ref w), (0, .ref v)]) [0, 1, 2, 3, 4, 5] rfl ?_
        have hcz : c = 0 := by omega
        subst hcz
        have hle : (rs ++ [y]).length = rs.length + 1 := by simp
        rw [← hle]
        exact ih (i := i + 1) (rs := rs ++ [y]) (by omega) a2 (fun j hj => by rw [upd_ne (by omega)]; exact hF.tl j hj) ((hR.keep (fun j hj => upd_ne (by omega))).app (fun j hj => by rw [List.length_singleton] at hj; rw [show j = 0 by omega, Nat.add_zero, Nat.zero_add]; exact upd_eq _ _ _)) (by omega) (by omega) (fun h' f' i' c' q1 q2 q3 k' q4 => K h' f' i' c' q1 (gfr.t fr4 q2) (by simp only [cW, if_neg c0, if_neg (Nat.lt_irrefl 0)]; rw [List.append_assoc] at q3; exact q3) k' (by simp only [cW, if_neg c0, if_neg (Nat.lt_irrefl 0)]; rw [q4]; simp only [List.length_append, List.length_cons, List.length_nil]; omega))
      · refine v_iinc (pc' := 61) (j := 2) (x := nI c) (v := nI (c - 1)) (L' := [(3, .int (nI (c - 1))), (5, .int (nI i)), (4, .int (nI rs.length)), (2, .int (nI m)), (1, .ref w), (0, .ref v)]) F dX5_valuesByWayInto_58 rfl (g_dec (by omega)) (by decide) rfl rfl ?_
        refine v_goto (tgt := 75) F dX5_valuesByWayInto_61 (by decide) ?_
        refine v_iinc (pc' := 78) (j := 1) (x := nI i) (v := nI (i + 1)) (L' := [(5, .int (nI (i + 1))), (3, .int (nI (c - 1))), (4, .int (nI rs.length)), (2, .int (nI m)), (1, .ref w), (0, .ref v)]) F dX5_valuesByWayInto_75 rfl (nI_add i 1) (by decide) rfl rfl ?_
        refine v_goto (tgt := 40) F dX5_valuesByWayInto_78 (by decide) ?_
        refine v_sub (L' := [(5, .int (nI (i + 1))), (4, .int (nI rs.length)), (3, .int (nI (c - 1))), (2, .int (nI m)), (1, .ref w), (0, .ref v)]) [0, 2, 1, 3, 4, 5] rfl ?_
        exact ih (i := i + 1) (c := c - 1) (by omega) hw hF.tl hR (by omega) (by omega) (fun h' f' i' c' q1 q2 q3 k' q4 => K h' f' i' c' q1 q2 (by simp only [cW, if_neg c0, if_pos c1]; exact q3) k' (by simp only [cW, if_neg c0, if_pos c1]; exact q4))
theorem hv_X5_wayInto : yX5_wayInto.cls = RX5 ∧ yX5_wayInto.cls ≠ "java/lang/invoke/MethodHandle" ∧ yX5_wayInto.cls ≠ "java/lang/invoke/VarHandle" ∧ (parseMethodDescriptor yX5_wayInto.desc).map (fun d => d.parameters.length) = some 1 := by decide +kernel
set_option maxHeartbeats 4000000 in
set_option maxRecDepth 100000 in
theorem c_X5_valuesByWayInto (G : gG) (z0 : Nat) (l : Launch) {h : gH} {v w N : Nat} {os : List mO} {f : Nat → Int32} (hN : N < 65536) (hO : wOk os) (hV : isV h os v) (hw : h w = some (oI G N f)) (hl : os.length ≤ N) : gC G z0 l yX5_valuesByWayInto wsX5_valuesByWayInto 1 23 [.ref v, .ref w] h (fun o h' => o = some (.int (nI (wVals os).length)) ∧ ∃ f', h' w = some (oI G N f') ∧ fHas f' 0 (wVals os) ∧ gfr [w] h h') 0 0 := by
  refine gC_of (cc := cX5_valuesByWayInto) (nL := 6) (ret := (some .int)) (by decide) rfl (Nat.le_of_ble_eq_true rfl) ?_
  intro X F E _
  change gF G z0 X cX5_valuesByWayInto 6 RX5 wsX5_valuesByWayInto (some .int) "valuesByWayInto" 1 23 _ _ at F
  show gV G z0 X 0 0 h 0 [(0, .ref v), (1, .ref w)] []
  obtain ⟨par, pu, t, a, b, hv, -⟩ := hV.obj
  refine v_aload_n (pc' := 1) F dX5_valuesByWayInto_0 rfl (j := 0) rfl rfl ?_
  refine v_aload_n (pc' := 2) F dX5_valuesByWayInto_1 rfl (j := 1) rfl rfl ?_
  refine v_callV (pc' := 5) (rt := (some .int)) (mcc := 0) (msc := 0) (As := [.ref w]) (st := []) F (fun l => c_X5_wayInto G z0 l hN hV hw hl) gX5_valuesByWayInto_X5_wayInto rfl hv_X5_wayInto (by decide) (by decide) hv rfl rfl rfl (Nat.le_of_ble_eq_true rfl) (by omega) (by omega) dX5_valuesByWayInto_2 rfl (fun v2 h1 hq => ?_)
  obtain ⟨rfl, f1, w1, g1, fr1⟩ := hq
  refine v_istore_n (pc' := 6) (i := 2) (L' := [(2, .int (nI os.length)), (0, .ref v), (1, .ref w)]) F dX5_valuesByWayInto_5 rfl (by decide) rfl rfl ?_
  refine v_iconst (pc' := 7) (v := nI 0) F dX5_valuesByWayInto_6 (by decide) rfl ?_
  refine v_istore_n (pc' := 8) (i := 3) (L' := [(3, .int (nI 0)), (2, .int (nI os.length)), (0, .ref v), (1, .ref w)]) F dX5_valuesByWayInto_7 rfl (by decide) rfl rfl ?_
  refine v_iconst (pc' := 9) (v := nI 0) F dX5_valuesByWayInto_8 (by decide) rfl ?_
  refine v_istore (pc' := 11) (i := 4) (L' := [(4, .int (nI 0)), (3, .int (nI 0)), (2, .int (nI os.length)), (0, .ref v), (1, .ref w)]) F dX5_valuesByWayInto_9  (by decide) rfl rfl ?_
  refine v_sub (L' := [(4, .int (nI 0)), (3, .int (nI 0)), (2, .int (nI os.length)), (1, .ref w), (0, .ref v)]) [0, 1, 2, 4, 3] rfl ?_
  have hcle := cP_le (wPu os)
  have hlen := wPu_len os
  refine lpA_X5_valuesByWayInto (i := 0) (ys := wPu os) F hN w1 g1 (by omega) hl (by omega) ?_
  refine v_iconst (pc' := 35) (v := nI 0) F dX5_valuesByWayInto_34 (by decide) rfl ?_
  refine v_istore (pc' := 37) (i := 4) (L' := [(4, .int (nI 0)), (3, .int (nI (0 + cP (wPu os)))), (2, .int (nI os.length)), (1, .ref w), (0, .ref v)]) F dX5_valuesByWayInto_35  (by decide) rfl rfl ?_
  refine v_iconst (pc' := 38) (v := nI 0) F dX5_valuesByWayInto_37 (by decide) rfl ?_
  refine v_istore (pc' := 40) (i := 5) (L' := [(5, .int (nI 0)), (4, .int (nI 0)), (3, .int (nI (0 + cP (wPu os)))), (2, .int (nI os.length)), (1, .ref w), (0, .ref v)]) F dX5_valuesByWayInto_38  (by decide) rfl rfl ?_
  refine v_sub (L' := [(5, .int (nI 0)), (4, .int (nI 0)), (3, .int (nI (0 + cP (wPu os)))), (2, .int (nI os.length)), (1, .ref w), (0, .ref v)]) [0, 1, 2, 3, 4, 5] rfl ?_
  refine lpB_X5_valuesByWayInto (i := 0) (ys := wPu os) (rs := []) F hN (by omega) w1 g1 (fun j hj => by simp at hj) (Nat.le_refl _) (by omega) hl (fun h2 f2 i2 c2 q1 q2 q3 k2 q4 => ?_)
  refine v_iload (pc' := 83) F dX5_valuesByWayInto_81  (j := 1) rfl rfl ?_
  rw [Nat.zero_add, List.nil_append, cW_way hO] at q3
  simp only [Nat.zero_add, List.length_nil, cW_way hO] at q4
  exact v_iret F E (by omega) (by omega)  dX5_valuesByWayInto_83 ⟨by rw [q4], f2, q1, q3, gfr.t fr1 q2⟩

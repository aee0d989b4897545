/-! THE OTHER QUEUE -/
def oGo : List Int32 → Nat × Nat × Nat × Nat → Nat × Nat × Nat × Nat
  | [], s => s
  | x :: xs, (st, ms, a, b) => if x = -1 then (if a = 0 then oGo xs (st + (b + 1), max ms (b + 1), b - 1, 0) else oGo xs (st + 1, max ms 1, a - 1, b)) else oGo xs (st + 1, max ms 1, a, b + 1)
def oVal : List Int32 → Nat → Prop
  | [], _ => True
  | x :: xs, t => if x = -1 then 0 < t ∧ oVal xs (t - 1) else oVal xs (t + 1)
def oTot : List Int32 → Nat → Nat
  | [], t => t
  | x :: xs, t => if x = -1 then oTot xs (t - 1) else oTot xs (t + 1)
theorem oVal_app : ∀ {xs : List Int32} {t : Nat} {x : Int32}, oVal xs t → (x = -1 → 0 < oTot xs t) → oVal (xs ++ [x]) t
  | [], t, x, _, h => by
    show oVal (x :: []) t
    unfold oVal
    by_cases hx : x = -1
    · rw [if_pos hx]; exact ⟨h hx, trivial⟩
    · rw [if_neg hx]; trivial
  | y :: xs, t, x, g, h => by
    show oVal (y :: (xs ++ [x])) t
    unfold oVal at g ⊢
    unfold oTot at h
    by_cases hy : y = -1
    · rw [if_pos hy] at g h ⊢
      exact ⟨g.1, oVal_app g.2 h⟩
    · rw [if_neg hy] at g h ⊢
      exact oVal_app g h
theorem oTot_app : ∀ (xs : List Int32) (t : Nat) (x : Int32), oTot (xs ++ [x]) t = if x = -1 then oTot xs t - 1 else oTot xs t + 1
  | [], t, x => by
    show oTot (x :: []) t = _
    simp only [oTot]
  | y :: xs, t, x => by
    show oTot (y :: (xs ++ [x])) t = _
    simp only [oTot, oTot_app xs]
    split <;> rfl
theorem oWay : ∀ {os : List mO}, wOk os → oVal (wPu os) 0 ∧ oTot (wPu os) 0 = (wVals os).length
  | [], _ => ⟨trivial, rfl⟩
  | o :: os, h => by
    obtain ⟨h1, h2, h3, h4, h5⟩ := h
    obtain ⟨i1, i2⟩ := oWay h1
    rw [wPu_cons]
    refine ⟨oVal_app i1 (fun z => ?_), ?_⟩
    · rw [i2]
      cases hw : wVals os with
      | nil => exact absurd hw (h4 z)
      | cons y ys => simp
    · rw [oTot_app, i2]
      show _ = (if o.1 = -1 then (wVals os).tail else wVals os ++ [o.1]).length
      split
      · simp
      · simp
theorem m_X2_init_ml3 : Cond.methodLink RX2 3 objectInit ∈ wsX2_init := by decide +kernel
theorem m_X2_init_oi : Cond.instanceMethod objectInit ∈ wsX2_init := by decide +kernel
theorem m_X2_init_oc : Cond.code objectInit ⟨#[0xb1]⟩ 1 none ∈ wsX2_init := by decide +kernel
theorem k_X2_init_2 : gCl wsX2_init 2 RX2 TX2 4 := ⟨by decide +kernel, rfl⟩
theorem m_X2_init_f9 : Cond.fieldLink RX2 9 "SteadyQueues$OtherQueue" "steps" "I" ∈ wsX2_init := by decide +kernel
theorem m_X2_init_f15 : Cond.fieldLink RX2 15 "SteadyQueues$OtherQueue" "mostSteps" "I" ∈ wsX2_init := by decide +kernel
theorem m_X2_init_f18 : Cond.fieldLink RX2 18 "SteadyQueues$OtherQueue" "inFront" "I" ∈ wsX2_init := by decide +kernel
theorem m_X2_init_f21 : Cond.fieldLink RX2 21 "SteadyQueues$OtherQueue" "inRear" "I" ∈ wsX2_init := by decide +kernel
set_option maxHeartbeats 4000000 in
set_option maxRecDepth 100000 in
theorem c_X2_init (G : gG) (z0 : Nat) (l : Launch) {h : gH} {z : Nat} (hz : h z = some (.inr (2, [.int (nI 0), .int (nI 0), .int (nI 0), .int (nI 0)]))) : gC G z0 l yX2_init wsX2_init 1 20 [.ref z] h (fun o h' => o = none ∧ h' z = some (.inr (2, [.int (nI 0), .int (nI 0), .int (nI 0), .int (nI 0)])) ∧ gfr [z] h h') 0 0 := by
  refine gC_of (cc := cX2_init) (nL := 1) (ret := none) (by decide) rfl (Nat.le_of_ble_eq_true rfl) ?_
  intro X F E _
  change gF G z0 X cX2_init 1 RX2 wsX2_init none "<init>" 1 20 _ _ at F
  show gV G z0 X 0 0 h 0 [(0, .ref z)] []
  refine v_aload_n (pc' := 1) F dX2_init_0 rfl (j := 0) rfl rfl ?_
  refine v_objInit (pc' := 4) F m_X2_init_ml3 m_X2_init_oi m_X2_init_oc (by decide) (Nat.le_of_ble_eq_true rfl) dX2_init_1 rfl ?_
  refine v_aload_n (pc' := 5) F dX2_init_4 rfl (j := 0) rfl rfl ?_
  refine v_iconst (pc' := 6) (v := nI 0) F dX2_init_5 (by decide) rfl ?_
  refine w_putf (pc' := 9) F k_X2_init_2 tyX2_ok nmX2 hz 0 (by decide) m_X2_init_f9 rfl  rfl rfl (show 0 < 4 by decide) [.int (nI 0), .int (nI 0), .int (nI 0), .int (nI 0)] rfl dX2_init_6 rfl (fun h1 a2 f3 => ?_)
  refine v_aload_n (pc' := 10) F dX2_init_9 rfl (j := 0) rfl rfl ?_
  refine v_iconst (pc' := 11) (v := nI 0) F dX2_init_10 (by decide) rfl ?_
  refine w_putf (pc' := 14) F k_X2_init_2 tyX2_ok nmX2 a2 1 (by decide) m_X2_init_f15 rfl  rfl rfl (show 1 < 4 by decide) [.int (nI 0), .int (nI 0), .int (nI 0), .int (nI 0)] rfl dX2_init_11 rfl (fun h4 a5 f6 => ?_)
  refine v_aload_n (pc' := 15) F dX2_init_14 rfl (j := 0) rfl rfl ?_
  refine v_iconst (pc' := 16) (v := nI 0) F dX2_init_15 (by decide) rfl ?_
  refine w_putf (pc' := 19) F k_X2_init_2 tyX2_ok nmX2 a5 2 (by decide) m_X2_init_f18 rfl  rfl rfl (show 2 < 4 by decide) [.int (nI 0), .int (nI 0), .int (nI 0), .int (nI 0)] rfl dX2_init_16 rfl (fun h7 a8 f9 => ?_)
  refine v_aload_n (pc' := 20) F dX2_init_19 rfl (j := 0) rfl rfl ?_
  refine v_iconst (pc' := 21) (v := nI 0) F dX2_init_20 (by decide) rfl ?_
  refine w_putf (pc' := 24) F k_X2_init_2 tyX2_ok nmX2 a8 3 (by decide) m_X2_init_f21 rfl  rfl rfl (show 3 < 4 by decide) [.int (nI 0), .int (nI 0), .int (nI 0), .int (nI 0)] rfl dX2_init_21 rfl (fun h10 a11 f12 => ?_)
  have fr13 : gfr [z] h h10 := (gfr.t f3 (gfr.t f6 (gfr.t f9 f12)))
  exact v_vret F E (by omega) (by omega)  dX2_init_24 ⟨rfl, a11, fr13⟩
theorem k_X2_putLast_2 : gCl wsX2_putLast 2 RX2 TX2 4 := ⟨by decide +kernel, rfl⟩
theorem m_X2_putLast_f21 : Cond.fieldLink RX2 21 "SteadyQueues$OtherQueue" "inRear" "I" ∈ wsX2_putLast := by decide +kernel
set_option maxHeartbeats 4000000 in
set_option maxRecDepth 100000 in
theorem c_X2_putLast (G : gG) (z0 : Nat) (l : Launch) {h : gH} {z st mx a b : Nat} (hz : h z = some (.inr (2, [.int (nI st), .int (nI mx), .int (nI a), .int (nI b)]))) : gC G z0 l yX2_putLast wsX2_putLast 0 0 [.ref z] h (fun o h' => o = some (.int (nI 1)) ∧ h' z = some (.inr (2, [.int (nI st), .int (nI mx), .int (nI a), .int (nI (b + 1))])) ∧ gfr [z] h h') 0 0 := by
  refine gC_of (cc := cX2_putLast) (nL := 1) (ret := (some .int)) (by decide) rfl (Nat.le_of_ble_eq_true rfl) ?_
  intro X F E _
  change gF G z0 X cX2_putLast 1 RX2 wsX2_putLast (some .int) "putLast" 0 0 _ _ at F
  show gV G z0 X 0 0 h 0 [(0, .ref z)] []
  refine v_aload_n (pc' := 1) F dX2_putLast_0 rfl (j := 0) rfl rfl ?_
  refine v_dup (pc' := 2) F dX2_putLast_1 rfl rfl ?_
  refine v_getf (pc' := 5) (v := .int (nI b)) F k_X2_putLast_2 hz 3 (by decide) m_X2_putLast_f21 rfl dX2_putLast_2 rfl ?_
  refine v_iconst (pc' := 6) (v := nI 1) F dX2_putLast_5 (by decide) rfl ?_
  refine v_iadd (pc' := 7) (v := nI (b + 1)) F dX2_putLast_6 (nI_add b 1) rfl ?_
  refine w_putf (pc' := 10) F k_X2_putLast_2 tyX2_ok nmX2 hz 3 (by decide) m_X2_putLast_f21 rfl  rfl rfl (show 3 < 4 by decide) [.int (nI st), .int (nI mx), .int (nI a), .int (nI (b + 1))] rfl dX2_putLast_7 rfl (fun h1 a2 f3 => ?_)
  refine v_iconst (pc' := 11) (v := nI 1) F dX2_putLast_10 (by decide) rfl ?_
  have fr4 : gfr [z] h h1 := f3
  exact v_iret F E (by omega) (by omega)  dX2_putLast_11 ⟨rfl, a2, fr4⟩
theorem k_X2_takeFirst_2 : gCl wsX2_takeFirst 2 RX2 TX2 4 := ⟨by decide +kernel, rfl⟩
theorem m_X2_takeFirst_f18 : Cond.fieldLink RX2 18 "SteadyQueues$OtherQueue" "inFront" "I" ∈ wsX2_takeFirst := by decide +kernel
theorem m_X2_takeFirst_f21 : Cond.fieldLink RX2 21 "SteadyQueues$OtherQueue" "inRear" "I" ∈ wsX2_takeFirst := by decide +kernel
set_option maxHeartbeats 4000000 in
set_option maxRecDepth 100000 in
theorem c_X2_takeFirst (G : gG) (z0 : Nat) (l : Launch) {h : gH} {z st mx a b : Nat} (hab : 0 < a + b) (hA : a < 65536) (hBB : b < 65536) (hz : h z = some (.inr (2, [.int (nI st), .int (nI mx), .int (nI a), .int (nI b)]))) : gC G z0 l yX2_takeFirst wsX2_takeFirst 0 0 [.ref z] h (fun o h' => o = some (.int (nI (if a = 0 then b + 1 else 1))) ∧ h' z = some (.inr (2, [.int (nI st), .int (nI mx), .int (nI (if a = 0 then b - 1 else a - 1)), .int (nI (if a = 0 then 0 else b))])) ∧ gfr [z] h h') 0 0 := by
  by_cases ha0 : a = 0
  · subst ha0
    refine gC_of (cc := cX2_takeFirst) (nL := 2) (ret := (some .int)) (by decide) rfl (Nat.le_of_ble_eq_true rfl) ?_
    intro X F E _
    change gF G z0 X cX2_takeFirst 2 RX2 wsX2_takeFirst (some .int) "takeFirst" 0 0 _ _ at F
    show gV G z0 X 0 0 h 0 [(0, .ref z)] []
    refine v_iconst (pc' := 1) (v := nI 0) F dX2_takeFirst_0 (by decide) rfl ?_
    refine v_istore_n (pc' := 2) (i := 1) (L' := [(1, .int (nI 0)), (0, .ref z)]) F dX2_takeFirst_1 rfl (by decide) rfl rfl ?_
    refine v_aload_n (pc' := 3) F dX2_takeFirst_2 rfl (j := 1) rfl rfl ?_
    refine v_getf (pc' := 6) (v := .int (nI 0)) F k_X2_takeFirst_2 hz 2 (by decide) m_X2_takeFirst_f18 rfl dX2_takeFirst_3 rfl ?_
    refine w_if_ne (tgt := 27) (pc' := 9) F (by omega) dX2_takeFirst_6 (by decide) rfl (fun c0 => absurd c0 (by omega)) (fun _ => ?_)
    refine v_aload_n (pc' := 10) F dX2_takeFirst_9 rfl (j := 1) rfl rfl ?_
    refine v_getf (pc' := 13) (v := .int (nI b)) F k_X2_takeFirst_2 hz 3 (by decide) m_X2_takeFirst_f21 rfl dX2_takeFirst_10 rfl ?_
    refine v_istore_n (pc' := 14) (i := 1) (L' := [(1, .int (nI b)), (0, .ref z)]) F dX2_takeFirst_13 rfl (by decide) rfl rfl ?_
    refine v_aload_n (pc' := 15) F dX2_takeFirst_14 rfl (j := 1) rfl rfl ?_
    refine v_aload_n (pc' := 16) F dX2_takeFirst_15 rfl (j := 1) rfl rfl ?_
    refine v_getf (pc' := 19) (v := .int (nI b)) F k_X2_takeFirst_2 hz 3 (by decide) m_X2_takeFirst_f21 rfl dX2_takeFirst_16 rfl ?_
    refine w_putf (pc' := 22) F k_X2_takeFirst_2 tyX2_ok nmX2 hz 2 (by decide) m_X2_takeFirst_f18 rfl  rfl rfl (show 2 < 4 by decide) [.int (nI st), .int (nI mx), .int (nI b), .int (nI b)] rfl dX2_takeFirst_19 rfl (fun h1 a2 f3 => ?_)
    refine v_aload_n (pc' := 23) F dX2_takeFirst_22 rfl (j := 1) rfl rfl ?_
    refine v_iconst (pc' := 24) (v := nI 0) F dX2_takeFirst_23 (by decide) rfl ?_
    refine w_putf (pc' := 27) F k_X2_takeFirst_2 tyX2_ok nmX2 a2 3 (by decide) m_X2_takeFirst_f21 rfl  rfl rfl (show 3 < 4 by decide) [.int (nI st), .int (nI mx), .int (nI b), .int (nI 0)] rfl dX2_takeFirst_24 rfl (fun h4 a5 f6 => ?_)
    refine v_aload_n (pc' := 28) F dX2_takeFirst_27 rfl (j := 1) rfl rfl ?_
    refine v_dup (pc' := 29) F dX2_takeFirst_28 rfl rfl ?_
    refine v_getf (pc' := 32) (v := .int (nI b)) F k_X2_takeFirst_2 a5 2 (by decide) m_X2_takeFirst_f18 rfl dX2_takeFirst_29 rfl ?_
    refine v_iconst (pc' := 33) (v := nI 1) F dX2_takeFirst_32 (by decide) rfl ?_
    refine v_isub (pc' := 34) (v := nI (b - 1)) F dX2_takeFirst_33 (g_subn (by omega) (by omega)) rfl ?_
    refine w_putf (pc' := 37) F k_X2_takeFirst_2 tyX2_ok nmX2 a5 2 (by decide) m_X2_takeFirst_f18 rfl  rfl rfl (show 2 < 4 by decide) [.int (nI st), .int (nI mx), .int (nI (b - 1)), .int (nI 0)] rfl dX2_takeFirst_34 rfl (fun h7 a8 f9 => ?_)
    refine v_iload_n (pc' := 38) F dX2_takeFirst_37 rfl (j := 0) rfl rfl ?_
    refine v_iconst (pc' := 39) (v := nI 1) F dX2_takeFirst_38 (by decide) rfl ?_
    refine v_iadd (pc' := 40) (v := nI (b + 1)) F dX2_takeFirst_39 (nI_add b 1) rfl ?_
    have fr10 : gfr [z] h h7 := (gfr.t f3 (gfr.t f6 f9))
    exact v_iret F E (by omega) (by omega)  dX2_takeFirst_40 ⟨by rw [if_pos rfl], by rw [if_pos rfl, if_pos rfl]; exact a8, fr10⟩
  · have ha1 := ha0
    refine gC_of (cc := cX2_takeFirst) (nL := 2) (ret := (some .int)) (by decide) rfl (Nat.le_of_ble_eq_true rfl) ?_
    intro X F E _
    change gF G z0 X cX2_takeFirst 2 RX2 wsX2_takeFirst (some .int) "takeFirst" 0 0 _ _ at F
    show gV G z0 X 0 0 h 0 [(0, .ref z)] []
    refine v_iconst (pc' := 1) (v := nI 0) F dX2_takeFirst_0 (by decide) rfl ?_
    refine v_istore_n (pc' := 2) (i := 1) (L' := [(1, .int (nI 0)), (0, .ref z)]) F dX2_takeFirst_1 rfl (by decide) rfl rfl ?_
    refine v_aload_n (pc' := 3) F dX2_takeFirst_2 rfl (j := 1) rfl rfl ?_
    refine v_getf (pc' := 6) (v := .int (nI a)) F k_X2_takeFirst_2 hz 2 (by decide) m_X2_takeFirst_f18 rfl dX2_takeFirst_3 rfl ?_
    refine w_if_ne (tgt := 27) (pc' := 9) F (by omega) dX2_takeFirst_6 (by decide) rfl (fun _ => ?_) (fun c0 => absurd c0 (by omega))
    refine v_aload_n (pc' := 28) F dX2_takeFirst_27 rfl (j := 1) rfl rfl ?_
    refine v_dup (pc' := 29) F dX2_takeFirst_28 rfl rfl ?_
    refine v_getf (pc' := 32) (v := .int (nI a)) F k_X2_takeFirst_2 hz 2 (by decide) m_X2_takeFirst_f18 rfl dX2_takeFirst_29 rfl ?_
    refine v_iconst (pc' := 33) (v := nI 1) F dX2_takeFirst_32 (by decide) rfl ?_
    refine v_isub (pc' := 34) (v := nI (a - 1)) F dX2_takeFirst_33 (g_subn (by omega) (by omega)) rfl ?_
    refine w_putf (pc' := 37) F k_X2_takeFirst_2 tyX2_ok nmX2 hz 2 (by decide) m_X2_takeFirst_f18 rfl  rfl rfl (show 2 < 4 by decide) [.int (nI st), .int (nI mx), .int (nI (a - 1)), .int (nI b)] rfl dX2_takeFirst_34 rfl (fun h1 a2 f3 => ?_)
    refine v_iload_n (pc' := 38) F dX2_takeFirst_37 rfl (j := 0) rfl rfl ?_
    refine v_iconst (pc' := 39) (v := nI 1) F dX2_takeFirst_38 (by decide) rfl ?_
    refine v_iadd (pc' := 40) (v := nI 1) F dX2_takeFirst_39 (g_eqn (nI_add 0 1) (by omega)) rfl ?_
    have fr4 : gfr [z] h h1 := f3
    exact v_iret F E (by omega) (by omega)  dX2_takeFirst_40 ⟨by rw [if_neg ha0], by rw [if_neg ha0, if_neg ha0]; exact a2, fr4⟩
theorem hv_X2_putLast : yX2_putLast.cls = RX2 ∧ yX2_putLast.cls ≠ "java/lang/invoke/MethodHandle" ∧ yX2_putLast.cls ≠ "java/lang/invoke/VarHandle" ∧ (parseMethodDescriptor yX2_putLast.desc).map (fun d => d.parameters.length) = some 0 := by decide +kernel
theorem k_X2_go_2 : gCl wsX2_go 2 RX2 TX2 4 := ⟨by decide +kernel, rfl⟩
theorem m_X2_go_f9 : Cond.fieldLink RX2 9 "SteadyQueues$OtherQueue" "steps" "I" ∈ wsX2_go := by decide +kernel
theorem m_X2_go_f15 : Cond.fieldLink RX2 15 "SteadyQueues$OtherQueue" "mostSteps" "I" ∈ wsX2_go := by decide +kernel
theorem m_X2_go_ml31 : Cond.methodLink RX2 31 Lib.Math.max.name ∈ wsX2_go := by decide +kernel
theorem m_X2_go_msmax : Cond.static Lib.Math.max.name ∈ wsX2_go := by decide +kernel
theorem m_X2_go_mi : Cond.initialized "java/lang/Math" ∈ wsX2_go := by decide +kernel
theorem m_X2_go_mcmax : Cond.code Lib.Math.max.name Lib.Math.max.code 2 (some .int) ∈ wsX2_go := by decide +kernel
theorem hv_X2_takeFirst : yX2_takeFirst.cls = RX2 ∧ yX2_takeFirst.cls ≠ "java/lang/invoke/MethodHandle" ∧ yX2_takeFirst.cls ≠ "java/lang/invoke/VarHandle" ∧ (parseMethodDescriptor yX2_takeFirst.desc).map (fun d => d.parameters.length) = some 0 := by decide +kernel
set_option maxHeartbeats 4000000 in
set_option maxRecDepth 100000 in
theorem lp_X2_go {G : gG} {z0 : Nat} {X : gX} {post : Option Value → gH → Prop} {mc ms cells slots m i z w N st mx a b : Nat} {h : gH} {f : Nat → Int32} {ys : List Int32} (F : gF G z0 X cX2_go 5 RX2 wsX2_go none "go" 1 21 mc ms) (E : gE G z0 X post mc ms) (hcc : cells ≤ mc) (hss : slots ≤ ms) (hN : N < 65536) (hmN : m ≤ N) (hw : h w = some (oI G N f)) (hF : fHas f i ys) (hm : i + ys.length = m) (hv : oVal ys (a + b)) (hbd : a + b + ys.length < 200) (hst : st + 200 * ys.length < 1000000) (hmx : mx < 1000) (hz : h z = some (.inr (2, [.int (nI st), .int (nI mx), .int (nI a), .int (nI b)]))) (hp : ∀ h', h' z = some (.inr (2, [.int (nI (oGo ys (st, mx, a, b)).1), .int (nI (oGo ys (st, mx, a, b)).2.1), .int (nI (oGo ys (st, mx, a, b)).2.2.1), .int (nI (oGo ys (st, mx, a, b)).2.2.2)])) → gfr [z] h h' → post none h') : gV G z0 X cells slots h 22 [(3, .int (nI i)), (2, .int (nI m)), (1, .ref w), (0, .ref z)] [] := by
  induction ys generalizing i st mx a b h with
  | nil =>
    simp only [List.length_nil] at hm
    refine v_iload_n (pc' := 23) F dX2_go_22 rfl (j := 0) rfl rfl ?_
    refine v_iload_n (pc' := 24) F dX2_go_23 rfl (j := 1) rfl rfl ?_
    refine w_icmp_ge (tgt := 77) (pc' := 27) F (by omega) (by omega) dX2_go_24 (by decide) rfl (fun _ => ?_) (fun c0 => absurd c0 (by omega))
    exact v_vret F E (by omega) (by omega)  dX2_go_77 (hp h hz gfr.rf)
  | cons y ys ih =>
    simp only [List.length_cons] at hm hbd hst
    have hy := hF.hdE
    have hzw := g_neA hz hw
    refine v_iload_n (pc' := 23) F dX2_go_22 rfl (j := 0) rfl rfl ?_
    refine v_iload_n (pc' := 24) F dX2_go_23 rfl (j := 1) rfl rfl ?_
    refine w_icmp_ge (tgt := 77) (pc' := 27) F (by omega) (by omega) dX2_go_24 (by decide) rfl (fun c0 => absurd c0 (by omega)) (fun _ => ?_)
    refine v_aload_n (pc' := 28) F dX2_go_27 rfl (j := 2) rfl rfl ?_
    refine v_iload_n (pc' := 29) F dX2_go_28 rfl (j := 0) rfl rfl ?_
    refine w_iald (pc' := 30) (v := y) F hw (by omega) (by omega) hy dX2_go_29 rfl ?_
    refine v_iconst (pc' := 31) (v := (-1)) F dX2_go_30 (by decide) rfl ?_
    refine v_icmp_ne (tgt := 41) (pc' := 34) F dX2_go_31 (by decide) rfl (fun c0 => ?_) (fun c0 => ?_)
    · refine v_aload_n (pc' := 42) F dX2_go_41 rfl (j := 3) rfl rfl ?_
      refine v_callV (pc' := 45) (rt := (some .int)) (mcc := 0) (msc := 0) (As := []) (st := []) F (fun l => c_X2_putLast G z0 l hz) gX2_go_X2_putLast rfl hv_X2_putLast (by decide) (by decide) hz rfl rfl rfl (Nat.le_of_ble_eq_true rfl) (by omega) (by omega) dX2_go_42 rfl (fun v2 h1 hq => ?_)
      obtain ⟨rfl, hz1, hf1⟩ := hq
      refine v_istore (pc' := 47) (i := 4) (L' := [(4, .int (nI 1)), (3, .int (nI i)), (2, .int (nI m)), (1, .ref w), (0, .ref z)]) F dX2_go_45  (by decide) rfl rfl ?_
      refine v_aload_n (pc' := 48) F dX2_go_47 rfl (j := 4) rfl rfl ?_
      refine v_dup (pc' := 49) F dX2_go_48 rfl rfl ?_
      refine v_getf (pc' := 52) (v := .int (nI st)) F k_X2_go_2 hz1 0 (by decide) m_X2_go_f9 rfl dX2_go_49 rfl ?_
      refine v_iload (pc' := 54) F dX2_go_52  (j := 0) rfl rfl ?_
      refine v_iadd (pc' := 55) (v := nI (st + 1)) F dX2_go_54 (nI_add st 1) rfl ?_
      refine w_putf (pc' := 58) F k_X2_go_2 tyX2_ok nmX2 hz1 0 (by decide) m_X2_go_f9 rfl  rfl rfl (show 0 < 4 by decide) [.int (nI (st + 1)), .int (nI mx), .int (nI a), .int (nI (b + 1))] rfl dX2_go_55 rfl (fun h3 a4 f5 => ?_)
      refine v_aload_n (pc' := 59) F dX2_go_58 rfl (j := 4) rfl rfl ?_
      refine v_aload_n (pc' := 60) F dX2_go_59 rfl (j := 4) rfl rfl ?_
      refine v_getf (pc' := 63) (v := .int (nI mx)) F k_X2_go_2 a4 1 (by decide) m_X2_go_f15 rfl dX2_go_60 rfl ?_
      refine v_iload (pc' := 65) F dX2_go_63  (j := 0) rfl rfl ?_
      refine v_mmax (pc' := 68) (v := nI (max mx 1)) F m_X2_go_ml31 m_X2_go_msmax m_X2_go_mi m_X2_go_mcmax (by decide) (Nat.le_of_ble_eq_true rfl) (by omega) (by omega) (g_maxn (by omega) (by omega)) dX2_go_65 rfl ?_
      refine w_putf (pc' := 71) F k_X2_go_2 tyX2_ok nmX2 a4 1 (by decide) m_X2_go_f15 rfl  rfl rfl (show 1 < 4 by decide) [.int (nI (st + 1)), .int (nI (max mx 1)), .int (nI a), .int (nI (b + 1))] rfl dX2_go_68 rfl (fun h6 a7 f8 => ?_)
      refine v_iinc (pc' := 74) (j := 1) (x := nI i) (v := nI (i + 1)) (L' := [(3, .int (nI (i + 1))), (4, .int (nI 1)), (2, .int (nI m)), (1, .ref w), (0, .ref z)]) F dX2_go_71 rfl (nI_add i 1) (by decide) rfl rfl ?_
      refine v_goto (tgt := 22) F dX2_go_74 (by decide) ?_
      have fr9 : gfr [z] h h6 := (gfr.t hf1 (gfr.t f5 f8))
      have g10 := hf1 _ _ (gnc hzw.symm gn0) hw
      have g11 := f5 _ _ (gnc hzw.symm gn0) g10
      have g12 := f8 _ _ (gnc hzw.symm gn0) g11
      refine v_sub (L' := [(3, .int (nI (i + 1))), (2, .int (nI m)), (1, .ref w), (0, .ref z)]) [0, 2, 3, 4] rfl ?_
      exact ih (i := i + 1) g12 hF.tl (by omega) (by simp only [oVal, if_neg c0] at hv; rw [show a + (b + 1) = a + b + 1 by omega]; exact hv) (by omega) (by omega) (by omega) a7 (fun h' q1 q2 => hp h' (by simp only [oGo, if_neg c0]; exact q1) (gfr.t fr9 q2))
    · refine v_aload_n (pc' := 35) F dX2_go_34 rfl (j := 3) rfl rfl ?_
      simp only [oVal, if_pos c0] at hv
      refine v_callV (pc' := 38) (rt := (some .int)) (mcc := 0) (msc := 0) (As := []) (st := []) F (fun l => c_X2_takeFirst G z0 l (by omega) (by omega) (by omega) hz) gX2_go_X2_takeFirst rfl hv_X2_takeFirst (by decide) (by decide) hz rfl rfl rfl (Nat.le_of_ble_eq_true rfl) (by omega) (by omega) dX2_go_35 rfl (fun v14 h13 hq => ?_)
      obtain ⟨rfl, hz1, hf1⟩ := hq
      by_cases ha0 : a = 0
      · subst ha0
        simp only [if_pos rfl] at hz1 ⊢
        refine v_goto (tgt := 45) F dX2_go_38 (by decide) ?_
        refine v_istore (pc' := 47) (i := 4) (L' := [(4, .int (nI (b + 1))), (3, .int (nI i)), (2, .int (nI m)), (1, .ref w), (0, .ref z)]) F dX2_go_45  (by decide) rfl rfl ?_
        refine v_aload_n (pc' := 48) F dX2_go_47 rfl (j := 4) rfl rfl ?_
        refine v_dup (pc' := 49) F dX2_go_48 rfl rfl ?_
        refine v_getf (pc' := 52) (v := .int (nI st)) F k_X2_go_2 hz1 0 (by decide) m_X2_go_f9 rfl dX2_go_49 rfl ?_
        refine v_iload (pc' := 54) F dX2_go_52  (j := 0) rfl rfl ?_
        refine v_iadd (pc' := 55) (v := nI (st + (b + 1))) F dX2_go_54 (nI_add st (b + 1)) rfl ?_
        refine w_putf (pc' := 58) F k_X2_go_2 tyX2_ok nmX2 hz1 0 (by decide) m_X2_go_f9 rfl  rfl rfl (show 0 < 4 by decide) [.int (nI (st + (b + 1))), .int (nI mx), .int (nI (b - 1)), .int (nI 0)] rfl dX2_go_55 rfl (fun h15 a16 f17 => ?_)
        refine v_aload_n (pc' := 59) F dX2_go_58 rfl (j := 4) rfl rfl ?_
        refine v_aload_n (pc' := 60) F dX2_go_59 rfl (j := 4) rfl rfl ?_
        refine v_getf (pc' := 63) (v := .int (nI mx)) F k_X2_go_2 a16 1 (by decide) m_X2_go_f15 rfl dX2_go_60 rfl ?_
        refine v_iload (pc' := 65) F dX2_go_63  (j := 0) rfl rfl ?_
        refine v_mmax (pc' := 68) (v := nI (max mx (b + 1))) F m_X2_go_ml31 m_X2_go_msmax m_X2_go_mi m_X2_go_mcmax (by decide) (Nat.le_of_ble_eq_true rfl) (by omega) (by omega) (g_maxn (by omega) (by omega)) dX2_go_65 rfl ?_
        refine w_putf (pc' := 71) F k_X2_go_2 tyX2_ok nmX2 a16 1 (by decide) m_X2_go_f15 rfl  rfl rfl (show 1 < 4 by decide) [.int (nI (st + (b + 1))), .int (nI (max mx (b + 1))), .int (nI (b - 1)), .int (nI 0)] rfl dX2_go_68 rfl (fun h18 a19 f20 => ?_)
        refine v_iinc (pc' := 74) (j := 1) (x := nI i) (v := nI (i + 1)) (L' := [(3, .int (nI (i + 1))), (4, .int (nI (b + 1))), (2, .int (nI m)), (1, .ref w), (0, .ref z)]) F dX2_go_71 rfl (nI_add i 1) (by decide) rfl rfl ?_
        refine v_goto (tgt := 22) F dX2_go_74 (by decide) ?_
        have fr21 : gfr [z] h h18 := (gfr.t hf1 (gfr.t f17 f20))
        have g22 := hf1 _ _ (gnc hzw.symm gn0) hw
        have g23 := f17 _ _ (gnc hzw.symm gn0) g22
        have g24 := f20 _ _ (gnc hzw.symm gn0) g23
        refine v_sub (L' := [(3, .int (nI (i + 1))), (2, .int (nI m)), (1, .ref w), (0, .ref z)]) [0, 2, 3, 4] rfl ?_
        exact ih (i := i + 1) g24 hF.tl (by omega) (by rw [show b - 1 + 0 = 0 + b - 1 by omega]; exact hv.2) (by omega) (by omega) (by omega) a19 (fun h' q1 q2 => hp h' (by simp only [oGo, if_pos c0, if_pos rfl]; exact q1) (gfr.t fr21 q2))
      · simp only [if_neg ha0] at hz1 ⊢
        refine v_goto (tgt := 45) F dX2_go_38 (by decide) ?_
        refine v_istore (pc' := 47) (i := 4) (L' := [(4, .int (nI 1)), (3, .int (nI i)), (2, .int (nI m)), (1, .ref w), (0, .ref z)]) F dX2_go_45  (by decide) rfl rfl ?_
        refine v_aload_n (pc' := 48) F dX2_go_47 rfl (j := 4) rfl rfl ?_
        refine v_dup (pc' := 49) F dX2_go_48 rfl rfl ?_
        refine v_getf (pc' := 52) (v := .int (nI st)) F k_X2_go_2 hz1 0 (by decide) m_X2_go_f9 rfl dX2_go_49 rfl ?_
        refine v_iload (pc' := 54) F dX2_go_52  (j := 0) rfl rfl ?_
        refine v_iadd (pc' := 55) (v := nI (st + 1)) F dX2_go_54 (nI_add st 1) rfl ?_
        refine w_putf (pc' := 58) F k_X2_go_2 tyX2_ok nmX2 hz1 0 (by decide) m_X2_go_f9 rfl  rfl rfl (show 0 < 4 by decide) [.int (nI (st + 1)), .int (nI mx), .int (nI (a - 1)), .int (nI b)] rfl dX2_go_55 rfl (fun h25 a26 f27 => ?_)
        refine v_aload_n (pc' := 59) F dX2_go_58 rfl (j := 4) rfl rfl ?_
        refine v_aload_n (pc' := 60) F dX2_go_59 rfl (j := 4) rfl rfl ?_
        refine v_getf (pc' := 63) (v := .int (nI mx)) F k_X2_go_2 a26 1 (by decide) m_X2_go_f15 rfl dX2_go_60 rfl ?_
        refine v_iload (pc' := 65) F dX2_go_63  (j := 0) rfl rfl ?_
        refine v_mmax (pc' := 68) (v := nI (max mx 1)) F m_X2_go_ml31 m_X2_go_msmax m_X2_go_mi m_X2_go_mcmax (by decide) (Nat.le_of_ble_eq_true rfl) (by omega) (by omega) (g_maxn (by omega) (by omega)) dX2_go_65 rfl ?_
        refine w_putf (pc' := 71) F k_X2_go_2 tyX2_ok nmX2 a26 1 (by decide) m_X2_go_f15 rfl  rfl rfl (show 1 < 4 by decide) [.int (nI (st + 1)), .int (nI (max mx 1)), .int (nI (a - 1)), .int (nI b)] rfl dX2_go_68 rfl (fun h28 a29 f30 => ?_)
        refine v_iinc (pc' := 74) (j := 1) (x := nI i) (v := nI (i + 1)) (L' := [(3, .int (nI (i + 1))), (4, .int (nI 1)), (2, .int (nI m)), (1, .ref w), (0, .ref z)]) F dX2_go_71 rfl (nI_add i 1) (by decide) rfl rfl ?_
        refine v_goto (tgt := 22) F dX2_go_74 (by decide) ?_
        have fr31 : gfr [z] h h28 := (gfr.t hf1 (gfr.t f27 f30))
        have g32 := hf1 _ _ (gnc hzw.symm gn0) hw
        have g33 := f27 _ _ (gnc hzw.symm gn0) g32
        have g34 := f30 _ _ (gnc hzw.symm gn0) g33
        refine v_sub (L' := [(3, .int (nI (i + 1))), (2, .int (nI m)), (1, .ref w), (0, .ref z)]) [0, 2, 3, 4] rfl ?_
        exact ih (i := i + 1) g34 hF.tl (by omega) (by rw [show a - 1 + b = a + b - 1 by omega]; exact hv.2) (by omega) (by omega) (by omega) a29 (fun h' q1 q2 => hp h' (by simp only [oGo, if_pos c0, if_neg ha0]; exact q1) (gfr.t fr31 q2))
theorem m_X2_go_f18 : Cond.fieldLink RX2 18 "SteadyQueues$OtherQueue" "inFront" "I" ∈ wsX2_go := by decide +kernel
theorem m_X2_go_f21 : Cond.fieldLink RX2 21 "SteadyQueues$OtherQueue" "inRear" "I" ∈ wsX2_go := by decide +kernel
set_option maxHeartbeats 4000000 in
set_option maxRecDepth 100000 in
theorem c_X2_go (G : gG) (z0 : Nat) (l : Launch) {h : gH} {z w N m : Nat} {f : Nat → Int32} {ys : List Int32} (hN : N < 65536) (hmN : m ≤ N) (hm : ys.length = m) (hm2 : m < 100) (hw : h w = some (oI G N f)) (hF : fHas f 0 ys) (hv : oVal ys 0) (hz : ∃ x1 x2 x3 x4, h z = some (.inr (2, [.int x1, .int x2, .int x3, .int x4]))) : gC G z0 l yX2_go wsX2_go 1 21 [.ref z, .ref w, .int (nI m)] h (fun o h' => o = none ∧ h' z = some (.inr (2, [.int (nI (oGo ys (0, 0, 0, 0)).1), .int (nI (oGo ys (0, 0, 0, 0)).2.1), .int (nI (oGo ys (0, 0, 0, 0)).2.2.1), .int (nI (oGo ys (0, 0, 0, 0)).2.2.2)])) ∧ gfr [z] h h') 0 0 := by
  obtain ⟨x1, x2, x3, x4, hz⟩ := hz
  refine gC_of (cc := cX2_go) (nL := 5) (ret := none) (by decide) rfl (Nat.le_of_ble_eq_true rfl) ?_
  intro X F E _
  change gF G z0 X cX2_go 5 RX2 wsX2_go none "go" 1 21 _ _ at F
  show gV G z0 X 0 0 h 0 [(0, .ref z), (1, .ref w), (2, .int (nI m))] []
  have hzw := g_neA hz hw
  refine v_aload_n (pc' := 1) F dX2_go_0 rfl (j := 0) rfl rfl ?_
  refine v_iconst (pc' := 2) (v := nI 0) F dX2_go_1 (by decide) rfl ?_
  refine w_putf (pc' := 5) F k_X2_go_2 tyX2_ok nmX2 hz 0 (by decide) m_X2_go_f9 rfl  rfl rfl (show 0 < 4 by decide) [.int (nI 0), .int x2, .int x3, .int x4] rfl dX2_go_2 rfl (fun h1 a2 f3 => ?_)
  refine v_aload_n (pc' := 6) F dX2_go_5 rfl (j := 0) rfl rfl ?_
  refine v_iconst (pc' := 7) (v := nI 0) F dX2_go_6 (by decide) rfl ?_
  refine w_putf (pc' := 10) F k_X2_go_2 tyX2_ok nmX2 a2 1 (by decide) m_X2_go_f15 rfl  rfl rfl (show 1 < 4 by decide) [.int (nI 0), .int (nI 0), .int x3, .int x4] rfl dX2_go_7 rfl (fun h4 a5 f6 => ?_)
  refine v_aload_n (pc' := 11) F dX2_go_10 rfl (j := 0) rfl rfl ?_
  refine v_iconst (pc' := 12) (v := nI 0) F dX2_go_11 (by decide) rfl ?_
  refine w_putf (pc' := 15) F k_X2_go_2 tyX2_ok nmX2 a5 2 (by decide) m_X2_go_f18 rfl  rfl rfl (show 2 < 4 by decide) [.int (nI 0), .int (nI 0), .int (nI 0), .int x4] rfl dX2_go_12 rfl (fun h7 a8 f9 => ?_)
  refine v_aload_n (pc' := 16) F dX2_go_15 rfl (j := 0) rfl rfl ?_
  refine v_iconst (pc' := 17) (v := nI 0) F dX2_go_16 (by decide) rfl ?_
  refine w_putf (pc' := 20) F k_X2_go_2 tyX2_ok nmX2 a8 3 (by decide) m_X2_go_f21 rfl  rfl rfl (show 3 < 4 by decide) [.int (nI 0), .int (nI 0), .int (nI 0), .int (nI 0)] rfl dX2_go_17 rfl (fun h10 a11 f12 => ?_)
  refine v_iconst (pc' := 21) (v := nI 0) F dX2_go_20 (by decide) rfl ?_
  refine v_istore_n (pc' := 22) (i := 3) (L' := [(3, .int (nI 0)), (0, .ref z), (1, .ref w), (2, .int (nI m))]) F dX2_go_21 rfl (by decide) rfl rfl ?_
  have fr13 : gfr [z] h h10 := (gfr.t f3 (gfr.t f6 (gfr.t f9 f12)))
  refine v_sub (L' := [(3, .int (nI 0)), (2, .int (nI m)), (1, .ref w), (0, .ref z)]) [0, 3, 2, 1] rfl ?_
  have g14 := f3 _ _ (gnc hzw.symm gn0) hw
  have g15 := f6 _ _ (gnc hzw.symm gn0) g14
  have g16 := f9 _ _ (gnc hzw.symm gn0) g15
  have g17 := f12 _ _ (gnc hzw.symm gn0) g16
  exact lp_X2_go (i := 0) F E (Nat.le_refl _) (Nat.le_refl _) hN hmN g17 hF (by omega) hv (by omega) (by omega) (by omega) a11 (fun h1 q1 q2 => ⟨rfl, q1, gfr.t fr13 q2⟩)

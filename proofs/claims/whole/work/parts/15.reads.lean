/-! WHAT A VERSION TELLS -/
theorem fHas.app {f : Nat → Int32} {p : Nat} {a b : List Int32} (h1 : fHas f p a) (h2 : fHas f (p + a.length) b) : fHas f p (a ++ b) := by
  intro j hj
  by_cases hl : j < a.length
  · rw [h1 j hl, gd_l hl]
  · have := h2 (j - a.length) (by simp at hj; omega)
    rw [show p + a.length + (j - a.length) = p + j by omega] at this
    rw [this, gd_r (by omega)]
theorem fHas.keep {f f' : Nat → Int32} {p : Nat} {a : List Int32} (h1 : fHas f p a) (h2 : ∀ j, j < p + a.length → f' j = f j) : fHas f' p a := fun j hj => by rw [h2 _ (by omega)]; exact h1 j hj
/-- the steps on the way, together and at most -/
def stW : List mO → Nat
  | [] => 0
  | o :: os => (qOf (o :: os)).2 + stW os
def mxW : List mO → Nat
  | [] => 0
  | o :: os => max (qOf (o :: os)).2 (mxW os)
theorem tRun_le : ∀ (p : Nat) (T : mT), (tRun p T).2 ≤ p
  | 0, _ => Nat.le_refl 0
  | p + 1, T => by
    unfold tRun
    cases tStep T with
    | none => exact Nat.zero_le _
    | some T' => exact Nat.succ_le_succ (tRun_le p T')
theorem qSettle_le (p : Nat) (q : mQ) : (qSettle p q).2 ≤ p := by
  unfold qSettle
  exact tRun_le p _
theorem qOf_le {os : List mO} (h : wOk os) : (qOf os).2 ≤ 4 := by
  cases os with
  | nil => exact Nat.zero_le _
  | cons o os =>
    obtain ⟨-, -, h3, -⟩ := h
    exact Nat.le_trans (qSettle_le _ _) h3
theorem stW_le : ∀ {os : List mO}, wOk os → stW os ≤ 4 * os.length
  | [], _ => Nat.le_refl _
  | o :: os, h => by
    have h1 := qOf_le h
    have h2 := stW_le h.1
    simp only [stW, List.length_cons]
    omega
theorem mxW_le : ∀ {os : List mO}, wOk os → mxW os ≤ 4
  | [], _ => by decide
  | o :: os, h => by
    have h1 := qOf_le h
    have h2 := mxW_le h.1
    simp only [mxW]
    omega
/-- a way with the addresses of its versions, the latest first -/
def isVc (h : gH) : List mO → List Nat → Prop
  | [], [v] => ∃ t, isVt h v t none (-1) 0 q0 0
  | o :: os, v :: u :: as => ∃ t, isVt h v t (some u) o.1 (os.length + 1) (qOf (o :: os)).1 (qOf (o :: os)).2 ∧ isVc h os (u :: as)
  | _, _ => False
theorem isVc.pv {h h' : gH} (f : gpv h h') : ∀ {os : List mO} {as : List Nat}, isVc h os as → isVc h' os as
  | [], [_], ⟨t, w⟩ => ⟨t, w.pv f⟩
  | _ :: _, _ :: _ :: _, ⟨t, w, k⟩ => ⟨t, w.pv f, k.pv f⟩
  | [], [], q => q.elim
  | [], _ :: _ :: _, q => q.elim
  | _ :: _, [], q => q.elim
  | _ :: _, [_], q => q.elim
theorem isVc.v {h : gH} : ∀ {os : List mO} {v : Nat} {as : List Nat}, isVc h os (v :: as) → isV h os v
  | [], _, [], q => q
  | _ :: _, _, _ :: _, ⟨t, w, k⟩ => ⟨t, _, w, k.v⟩
  | [], _, _ :: _, q => q.elim
  | _ :: _, _, [], q => q.elim
/-- what stands in the object of a version -/
theorem isV.obj {h : gH} {os : List mO} {v : Nat} (w : isV h os v) : ∃ (par : Option Nat) (pu : Int32) (t : Nat) (a b : Option Nat), h v = some (.inr (5, [va_rf par, .int pu, .int (nI os.length), .ref t, va_rf a, va_rf b, .int (nI (qOf os).1.2.2.1), .int (nI (qOf os).1.2.2.2.1), .int (nI (qOf os).2)])) ∧ isL h (qOf os).1.1 a ∧ isL h (qOf os).1.2.1 b ∧ isT h t (qOf os).1.2.2.2.2 := by
  obtain ⟨t, par, pu, w⟩ := w.at
  generalize (qOf os).1 = q at w ⊢
  obtain ⟨f, r, fl, rl, T⟩ := q
  obtain ⟨a, b, h1, h2, h3, h4⟩ := w
  exact ⟨par, pu, t, a, b, h1, h2, h3, h4⟩
theorem isV.cons {h : gH} {o : mO} {os : List mO} {v : Nat} (w : isV h (o :: os) v) : ∃ (u : Nat), isV h os u ∧ ∃ (t : Nat) (a b : Option Nat), h v = some (.inr (5, [.ref u, .int o.1, .int (nI (os.length + 1)), .ref t, va_rf a, va_rf b, .int (nI (qOf (o :: os)).1.2.2.1), .int (nI (qOf (o :: os)).1.2.2.2.1), .int (nI (qOf (o :: os)).2)])) := by
  obtain ⟨t, u, w, k⟩ := w
  generalize (qOf (o :: os)).1 = q at w ⊢
  obtain ⟨f, r, fl, rl, T⟩ := q
  obtain ⟨a, b, h1, h2, h3, h4⟩ := w
  exact ⟨u, k, t, a, b, h1⟩
theorem isV.nil {h : gH} {v : Nat} (w : isV h [] v) : ∃ (t : Nat) (a b : Option Nat), h v = some (.inr (5, [.null, .int (-1), .int (nI 0), .ref t, va_rf a, va_rf b, .int (nI 0), .int (nI 0), .int (nI 0)])) := by
  obtain ⟨t, a, b, h1, -⟩ := w
  exact ⟨t, a, b, h1⟩
theorem k_X5_stepsOnWay_5 : gCl wsX5_stepsOnWay 5 RX5 TX5 9 := ⟨by decide +kernel, rfl⟩
theorem m_X5_stepsOnWay_f32 : Cond.fieldLink RX5 32 "SteadyQueues$Version" "steps" "I" ∈ wsX5_stepsOnWay := by decide +kernel
theorem m_X5_stepsOnWay_f35 : Cond.fieldLink RX5 35 "SteadyQueues$Version" "parent" "LSteadyQueues$Version;" ∈ wsX5_stepsOnWay := by decide +kernel
set_option maxHeartbeats 4000000 in
set_option maxRecDepth 100000 in
theorem lp_X5_stepsOnWay {G : gG} {z0 : Nat} {X : gX} {h : gH} {post : Option Value → gH → Prop} {mc ms cells slots v v0 k : Nat} {os : List mO} (F : gF G z0 X cX5_stepsOnWay 3 RX5 wsX5_stepsOnWay (some .int) "stepsOnWay" 0 0 mc ms) (E : gE G z0 X post mc ms) (hcc : cells ≤ mc) (hss : slots ≤ ms) (hO : wOk os) (hV : isV h os v) (hk : k + 4 * os.length + 4 < 2147483648) (hp : post (some (.int (nI (k + stW os)))) h) : gV G z0 X cells slots h 4 [(2, .ref v), (1, .int (nI k)), (0, .ref v0)] [] := by
  induction os generalizing v k with
  | nil =>
    obtain ⟨t, a, b, hv⟩ := hV.nil
    refine v_aload_n (pc' := 5) F dX5_stepsOnWay_4 rfl (j := 0) rfl rfl ?_
    refine v_ifnull (pc' := 8) F dX5_stepsOnWay_5 rfl ?_
    refine v_iload_n (pc' := 9) F dX5_stepsOnWay_8 rfl (j := 1) rfl rfl ?_
    refine v_aload_n (pc' := 10) F dX5_stepsOnWay_9 rfl (j := 0) rfl rfl ?_
    refine v_getf (pc' := 13) (v := .int (nI 0)) F k_X5_stepsOnWay_5 hv 8 (by decide) m_X5_stepsOnWay_f32 rfl dX5_stepsOnWay_10 rfl ?_
    refine v_iadd (pc' := 14) (v := nI k) F dX5_stepsOnWay_13 (g_eqn (nI_add k 0) (by omega)) rfl ?_
    refine v_istore_n (pc' := 15) (i := 1) (L' := [(1, .int (nI k)), (2, .ref v), (0, .ref v0)]) F dX5_stepsOnWay_14 rfl (by decide) rfl rfl ?_
    refine v_aload_n (pc' := 16) F dX5_stepsOnWay_15 rfl (j := 1) rfl rfl ?_
    refine v_getf (pc' := 19) (v := .null) F k_X5_stepsOnWay_5 hv 0 (by decide) m_X5_stepsOnWay_f35 rfl dX5_stepsOnWay_16 rfl ?_
    refine v_astore0_n (pc' := 20) (i := 2) (L' := [(2, .null), (1, .int (nI k)), (0, .ref v0)]) F dX5_stepsOnWay_19 rfl (by decide) rfl rfl ?_
    refine v_goto (tgt := 4) F dX5_stepsOnWay_20 (by decide) ?_
    refine v_aload0_n (pc' := 5) F dX5_stepsOnWay_4 rfl (j := 0) rfl rfl ?_
    refine v_ifnullN (tgt := 23) F dX5_stepsOnWay_5 (by decide) ?_
    refine v_iload_n (pc' := 24) F dX5_stepsOnWay_23 rfl (j := 1) rfl rfl ?_
    exact v_iret F E (by omega) (by omega)  dX5_stepsOnWay_24 (by simpa [stW] using hp)
  | cons o os ih =>
    obtain ⟨u, hU, t, a, b, hv⟩ := hV.cons
    have hq4 := qOf_le hO
    simp only [List.length_cons] at hk
    refine v_aload_n (pc' := 5) F dX5_stepsOnWay_4 rfl (j := 0) rfl rfl ?_
    refine v_ifnull (pc' := 8) F dX5_stepsOnWay_5 rfl ?_
    refine v_iload_n (pc' := 9) F dX5_stepsOnWay_8 rfl (j := 1) rfl rfl ?_
    refine v_aload_n (pc' := 10) F dX5_stepsOnWay_9 rfl (j := 0) rfl rfl ?_
    refine v_getf (pc' := 13) (v := .int (nI ((qOf (o :: os)).2))) F k_X5_stepsOnWay_5 hv 8 (by decide) m_X5_stepsOnWay_f32 rfl dX5_stepsOnWay_10 rfl ?_
    refine v_iadd (pc' := 14) (v := nI (k + ((qOf (o :: os)).2))) F dX5_stepsOnWay_13 (nI_add k ((qOf (o :: os)).2)) rfl ?_
    refine v_istore_n (pc' := 15) (i := 1) (L' := [(1, .int (nI (k + ((qOf (o :: os)).2)))), (2, .ref v), (0, .ref v0)]) F dX5_stepsOnWay_14 rfl (by decide) rfl rfl ?_
    refine v_aload_n (pc' := 16) F dX5_stepsOnWay_15 rfl (j := 1) rfl rfl ?_
    refine v_getf (pc' := 19) (v := .ref u) F k_X5_stepsOnWay_5 hv 0 (by decide) m_X5_stepsOnWay_f35 rfl dX5_stepsOnWay_16 rfl ?_
    refine v_astore_n (pc' := 20) (i := 2) (L' := [(2, .ref u), (1, .int (nI (k + ((qOf (o :: os)).2)))), (0, .ref v0)]) F dX5_stepsOnWay_19 rfl (by decide) rfl rfl ?_
    refine v_goto (tgt := 4) F dX5_stepsOnWay_20 (by decide) ?_
    refine v_sub (L' := [(2, .ref u), (1, .int (nI (k + ((qOf (o :: os)).2)))), (0, .ref v0)]) [0, 1, 2] rfl ?_
    exact ih hO.1 hU (by omega) (by simp only [stW] at hp; rw [Nat.add_assoc]; exact hp)
set_option maxHeartbeats 4000000 in
set_option maxRecDepth 100000 in
theorem c_X5_stepsOnWay (G : gG) (z0 : Nat) (l : Launch) {h : gH} {v : Nat} {os : List mO} (hO : wOk os) (hV : isV h os v) (hl : os.length < 1000) : gC G z0 l yX5_stepsOnWay wsX5_stepsOnWay 0 0 [.ref v] h (fun o h' => o = some (.int (nI (stW os))) ∧ h' = h) 0 0 := by
  refine gC_of (cc := cX5_stepsOnWay) (nL := 3) (ret := (some .int)) (by decide) rfl (Nat.le_of_ble_eq_true rfl) ?_
  intro X F E _
  change gF G z0 X cX5_stepsOnWay 3 RX5 wsX5_stepsOnWay (some .int) "stepsOnWay" 0 0 _ _ at F
  show gV G z0 X 0 0 h 0 [(0, .ref v)] []
  refine v_iconst (pc' := 1) (v := nI 0) F dX5_stepsOnWay_0 (by decide) rfl ?_
  refine v_istore_n (pc' := 2) (i := 1) (L' := [(1, .int (nI 0)), (0, .ref v)]) F dX5_stepsOnWay_1 rfl (by decide) rfl rfl ?_
  refine v_aload_n (pc' := 3) F dX5_stepsOnWay_2 rfl (j := 1) rfl rfl ?_
  refine v_astore_n (pc' := 4) (i := 2) (L' := [(2, .ref v), (1, .int (nI 0)), (0, .ref v)]) F dX5_stepsOnWay_3 rfl (by decide) rfl rfl ?_
  refine v_sub (L' := [(2, .ref v), (1, .int (nI 0)), (0, .ref v)]) [0, 1, 2] rfl ?_
  exact lp_X5_stepsOnWay F E (Nat.le_refl _) (Nat.le_refl _) hO hV (by omega) ⟨by simp, rfl⟩
theorem k_X5_mostStepsOnWay_5 : gCl wsX5_mostStepsOnWay 5 RX5 TX5 9 := ⟨by decide +kernel, rfl⟩
theorem m_X5_mostStepsOnWay_f32 : Cond.fieldLink RX5 32 "SteadyQueues$Version" "steps" "I" ∈ wsX5_mostStepsOnWay := by decide +kernel
theorem m_X5_mostStepsOnWay_ml103 : Cond.methodLink RX5 103 Lib.Math.max.name ∈ wsX5_mostStepsOnWay := by decide +kernel
theorem m_X5_mostStepsOnWay_msmax : Cond.static Lib.Math.max.name ∈ wsX5_mostStepsOnWay := by decide +kernel
theorem m_X5_mostStepsOnWay_mi : Cond.initialized "java/lang/Math" ∈ wsX5_mostStepsOnWay := by decide +kernel
theorem m_X5_mostStepsOnWay_mcmax : Cond.code Lib.Math.max.name Lib.Math.max.code 2 (some .int) ∈ wsX5_mostStepsOnWay := by decide +kernel
theorem m_X5_mostStepsOnWay_f35 : Cond.fieldLink RX5 35 "SteadyQueues$Version" "parent" "LSteadyQueues$Version;" ∈ wsX5_mostStepsOnWay := by decide +kernel
set_option maxHeartbeats 4000000 in
set_option maxRecDepth 100000 in
theorem lp_X5_mostStepsOnWay {G : gG} {z0 : Nat} {X : gX} {h : gH} {post : Option Value → gH → Prop} {mc ms cells slots v v0 k : Nat} {os : List mO} (F : gF G z0 X cX5_mostStepsOnWay 3 RX5 wsX5_mostStepsOnWay (some .int) "mostStepsOnWay" 1 21 mc ms) (E : gE G z0 X post mc ms) (hcc : cells ≤ mc) (hss : slots ≤ ms) (hO : wOk os) (hV : isV h os v) (hk : k < 1000) (hp : post (some (.int (nI (max k (mxW os))))) h) : gV G z0 X cells slots h 4 [(2, .ref v), (1, .int (nI k)), (0, .ref v0)] [] := by
  induction os generalizing v k with
  | nil =>
    obtain ⟨t, a, b, hv⟩ := hV.nil
    refine v_aload_n (pc' := 5) F dX5_mostStepsOnWay_4 rfl (j := 0) rfl rfl ?_
    refine v_ifnull (pc' := 8) F dX5_mostStepsOnWay_5 rfl ?_
    refine v_iload_n (pc' := 9) F dX5_mostStepsOnWay_8 rfl (j := 1) rfl rfl ?_
    refine v_aload_n (pc' := 10) F dX5_mostStepsOnWay_9 rfl (j := 0) rfl rfl ?_
    refine v_getf (pc' := 13) (v := .int (nI 0)) F k_X5_mostStepsOnWay_5 hv 8 (by decide) m_X5_mostStepsOnWay_f32 rfl dX5_mostStepsOnWay_10 rfl ?_
    refine v_mmax (pc' := 16) (v := nI (max k 0)) F m_X5_mostStepsOnWay_ml103 m_X5_mostStepsOnWay_msmax m_X5_mostStepsOnWay_mi m_X5_mostStepsOnWay_mcmax (by decide) (Nat.le_of_ble_eq_true rfl) (by omega) (by omega) (g_maxn (by omega) (by omega)) dX5_mostStepsOnWay_13 rfl ?_
    refine v_istore_n (pc' := 17) (i := 1) (L' := [(1, .int (nI (max k 0))), (2, .ref v), (0, .ref v0)]) F dX5_mostStepsOnWay_16 rfl (by decide) rfl rfl ?_
    refine v_aload_n (pc' := 18) F dX5_mostStepsOnWay_17 rfl (j := 1) rfl rfl ?_
    refine v_getf (pc' := 21) (v := .null) F k_X5_mostStepsOnWay_5 hv 0 (by decide) m_X5_mostStepsOnWay_f35 rfl dX5_mostStepsOnWay_18 rfl ?_
    refine v_astore0_n (pc' := 22) (i := 2) (L' := [(2, .null), (1, .int (nI (max k 0))), (0, .ref v0)]) F dX5_mostStepsOnWay_21 rfl (by decide) rfl rfl ?_
    refine v_goto (tgt := 4) F dX5_mostStepsOnWay_22 (by decide) ?_
    refine v_aload0_n (pc' := 5) F dX5_mostStepsOnWay_4 rfl (j := 0) rfl rfl ?_
    refine v_ifnullN (tgt := 25) F dX5_mostStepsOnWay_5 (by decide) ?_
    refine v_iload_n (pc' := 26) F dX5_mostStepsOnWay_25 rfl (j := 1) rfl rfl ?_
    exact v_iret F E (by omega) (by omega)  dX5_mostStepsOnWay_26 (by simpa [mxW] using hp)
  | cons o os ih =>
    obtain ⟨u, hU, t, a, b, hv⟩ := hV.cons
    have hq4 := qOf_le hO
    refine v_aload_n (pc' := 5) F dX5_mostStepsOnWay_4 rfl (j := 0) rfl rfl ?_
    refine v_ifnull (pc' := 8) F dX5_mostStepsOnWay_5 rfl ?_
    refine v_iload_n (pc' := 9) F dX5_mostStepsOnWay_8 rfl (j := 1) rfl rfl ?_
    refine v_aload_n (pc' := 10) F dX5_mostStepsOnWay_9 rfl (j := 0) rfl rfl ?_
    refine v_getf (pc' := 13) (v := .int (nI ((qOf (o :: os)).2))) F k_X5_mostStepsOnWay_5 hv 8 (by decide) m_X5_mostStepsOnWay_f32 rfl dX5_mostStepsOnWay_10 rfl ?_
    refine v_mmax (pc' := 16) (v := nI (max k ((qOf (o :: os)).2))) F m_X5_mostStepsOnWay_ml103 m_X5_mostStepsOnWay_msmax m_X5_mostStepsOnWay_mi m_X5_mostStepsOnWay_mcmax (by decide) (Nat.le_of_ble_eq_true rfl) (by omega) (by omega) (g_maxn (by omega) (by omega)) dX5_mostStepsOnWay_13 rfl ?_
    refine v_istore_n (pc' := 17) (i := 1) (L' := [(1, .int (nI (max k ((qOf (o :: os)).2)))), (2, .ref v), (0, .ref v0)]) F dX5_mostStepsOnWay_16 rfl (by decide) rfl rfl ?_
    refine v_aload_n (pc' := 18) F dX5_mostStepsOnWay_17 rfl (j := 1) rfl rfl ?_
    refine v_getf (pc' := 21) (v := .ref u) F k_X5_mostStepsOnWay_5 hv 0 (by decide) m_X5_mostStepsOnWay_f35 rfl dX5_mostStepsOnWay_18 rfl ?_
    refine v_astore_n (pc' := 22) (i := 2) (L' := [(2, .ref u), (1, .int (nI (max k ((qOf (o :: os)).2)))), (0, .ref v0)]) F dX5_mostStepsOnWay_21 rfl (by decide) rfl rfl ?_
    refine v_goto (tgt := 4) F dX5_mostStepsOnWay_22 (by decide) ?_
    refine v_sub (L' := [(2, .ref u), (1, .int (nI (max k ((qOf (o :: os)).2)))), (0, .ref v0)]) [0, 1, 2] rfl ?_
    exact ih hO.1 hU (by omega) (by simp only [mxW] at hp; rw [Nat.max_assoc]; exact hp)
set_option maxHeartbeats 4000000 in
set_option maxRecDepth 100000 in
theorem c_X5_mostStepsOnWay (G : gG) (z0 : Nat) (l : Launch) {h : gH} {v : Nat} {os : List mO} (hO : wOk os) (hV : isV h os v) (hl : os.length < 1000) : gC G z0 l yX5_mostStepsOnWay wsX5_mostStepsOnWay 1 21 [.ref v] h (fun o h' => o = some (.int (nI (mxW os))) ∧ h' = h) 0 0 := by
  refine gC_of (cc := cX5_mostStepsOnWay) (nL := 3) (ret := (some .int)) (by decide) rfl (Nat.le_of_ble_eq_true rfl) ?_
  intro X F E _
  change gF G z0 X cX5_mostStepsOnWay 3 RX5 wsX5_mostStepsOnWay (some .int) "mostStepsOnWay" 1 21 _ _ at F
  show gV G z0 X 0 0 h 0 [(0, .ref v)] []
  refine v_iconst (pc' := 1) (v := nI 0) F dX5_mostStepsOnWay_0 (by decide) rfl ?_
  refine v_istore_n (pc' := 2) (i := 1) (L' := [(1, .int (nI 0)), (0, .ref v)]) F dX5_mostStepsOnWay_1 rfl (by decide) rfl rfl ?_
  refine v_aload_n (pc' := 3) F dX5_mostStepsOnWay_2 rfl (j := 1) rfl rfl ?_
  refine v_astore_n (pc' := 4) (i := 2) (L' := [(2, .ref v), (1, .int (nI 0)), (0, .ref v)]) F dX5_mostStepsOnWay_3 rfl (by decide) rfl rfl ?_
  refine v_sub (L' := [(2, .ref v), (1, .int (nI 0)), (0, .ref v)]) [0, 1, 2] rfl ?_
  exact lp_X5_mostStepsOnWay F E (Nat.le_refl _) (Nat.le_refl _) hO hV (by omega) ⟨by simp, rfl⟩
theorem isVc.cons {h : gH} {os : List mO} {v : Nat} {as : List Nat} (w : isVc h os (v :: as)) : (as = [] ∧ os = [] ∧ ∃ fs, h v = some (.inr (5, .null :: fs)) ∧ fs.length = 8) ∨ ∃ (u : Nat) (as' : List Nat) (o : mO) (os' : List mO), as = u :: as' ∧ os = o :: os' ∧ isVc h os' (u :: as') ∧ ∃ fs, h v = some (.inr (5, .ref u :: fs)) ∧ fs.length = 8 := by
  cases os with
  | nil =>
    cases as with
    | nil =>
      obtain ⟨t, w⟩ := w
      obtain ⟨a, b, h1, -⟩ := w
      exact Or.inl ⟨rfl, rfl, _, h1, rfl⟩
    | cons u as => exact w.elim
  | cons o os =>
    cases as with
    | nil => exact w.elim
    | cons u as =>
      obtain ⟨t, w, k⟩ := w
      generalize (qOf (o :: os)).1 = q at w
      obtain ⟨f, r, fl, rl, T⟩ := q
      obtain ⟨a, b, h1, -⟩ := w
      exact Or.inr ⟨u, as, o, os, rfl, rfl, k, _, h1, rfl⟩
theorem k_X5_wasMadeFrom_5 : gCl wsX5_wasMadeFrom 5 RX5 TX5 9 := ⟨by decide +kernel, rfl⟩
theorem m_X5_wasMadeFrom_f35 : Cond.fieldLink RX5 35 "SteadyQueues$Version" "parent" "LSteadyQueues$Version;" ∈ wsX5_wasMadeFrom := by decide +kernel
theorem l8 {l : List Value} (h : l.length = 8) : ∃ x1 x2 x3 x4 x5 x6 x7 x8, l = [x1, x2, x3, x4, x5, x6, x7, x8] := by
  match l, h with
  | [x1, x2, x3, x4, x5, x6, x7, x8], _ => exact ⟨x1, x2, x3, x4, x5, x6, x7, x8, rfl⟩
set_option maxHeartbeats 4000000 in
set_option maxRecDepth 100000 in
theorem lp_X5_wasMadeFrom {G : gG} {z0 : Nat} {X : gX} {h : gH} {post : Option Value → gH → Prop} {mc ms cells slots v v0 w : Nat} {os : List mO} {as : List Nat} (F : gF G z0 X cX5_wasMadeFrom 3 RX5 wsX5_wasMadeFrom (some .boolean) "wasMadeFrom" 0 0 mc ms) (E : gE G z0 X post mc ms) (hcc : cells ≤ mc) (hss : slots ≤ ms) (hV : isVc h os (v :: as)) (hp : post (some (.int (if w ∈ v :: as then nI 1 else nI 0))) h) : gV G z0 X cells slots h 2 [(2, .ref v), (1, .ref w), (0, .ref v0)] [] := by
  induction as generalizing v os with
  | nil =>
    obtain ⟨-, -, fs, hv, hl⟩ | ⟨u, as1, o, os1, e, -⟩ := hV.cons
    · obtain ⟨x1, x2, x3, x4, x5, x6, x7, x8, rfl⟩ := l8 hl
      refine v_aload_n (pc' := 3) F dX5_wasMadeFrom_2 rfl (j := 0) rfl rfl ?_
      refine v_ifnull (pc' := 6) F dX5_wasMadeFrom_3 rfl ?_
      refine v_aload_n (pc' := 7) F dX5_wasMadeFrom_6 rfl (j := 0) rfl rfl ?_
      refine v_aload_n (pc' := 8) F dX5_wasMadeFrom_7 rfl (j := 1) rfl rfl ?_
      refine v_acmp_ne (tgt := 13) (pc' := 11) (rx := some v) (ry := some w) F dX5_wasMadeFrom_8 (by decide) rfl (fun c => ?_) (fun c => ?_)
      · refine v_aload_n (pc' := 14) F dX5_wasMadeFrom_13 rfl (j := 0) rfl rfl ?_
        refine v_getf (pc' := 17) (v := .null) F k_X5_wasMadeFrom_5 hv 0 (by decide) m_X5_wasMadeFrom_f35 rfl dX5_wasMadeFrom_14 rfl ?_
        refine v_astore0_n (pc' := 18) (i := 2) (L' := [(2, .null), (1, .ref w), (0, .ref v0)]) F dX5_wasMadeFrom_17 rfl (by decide) rfl rfl ?_
        refine v_goto (tgt := 2) F dX5_wasMadeFrom_18 (by decide) ?_
        refine v_aload0_n (pc' := 3) F dX5_wasMadeFrom_2 rfl (j := 0) rfl rfl ?_
        refine v_ifnullN (tgt := 21) F dX5_wasMadeFrom_3 (by decide) ?_
        refine v_iconst (pc' := 22) (v := nI 0) F dX5_wasMadeFrom_21 (by decide) rfl ?_
        exact v_zret F E (by omega) (by omega) (by decide) dX5_wasMadeFrom_22 (by rw [if_neg (by simpa using fun z : w = v => c (by rw [z]))] at hp; exact hp)
      · refine v_iconst (pc' := 12) (v := nI 1) F dX5_wasMadeFrom_11 (by decide) rfl ?_
        exact v_zret F E (by omega) (by omega) (by decide) dX5_wasMadeFrom_12 (by rw [if_pos (by cases c; exact List.mem_cons_self)] at hp; exact hp)
    · cases e
  | cons u as ih =>
    obtain ⟨e, -⟩ | ⟨u1, as1, o, os1, e, rfl, hU, fs, hv, hl⟩ := hV.cons
    · cases e
    · cases e
      obtain ⟨x1, x2, x3, x4, x5, x6, x7, x8, rfl⟩ := l8 hl
      refine v_aload_n (pc' := 3) F dX5_wasMadeFrom_2 rfl (j := 0) rfl rfl ?_
      refine v_ifnull (pc' := 6) F dX5_wasMadeFrom_3 rfl ?_
      refine v_aload_n (pc' := 7) F dX5_wasMadeFrom_6 rfl (j := 0) rfl rfl ?_
      refine v_aload_n (pc' := 8) F dX5_wasMadeFrom_7 rfl (j := 1) rfl rfl ?_
      refine v_acmp_ne (tgt := 13) (pc' := 11) (rx := some v) (ry := some w) F dX5_wasMadeFrom_8 (by decide) rfl (fun c => ?_) (fun c => ?_)
      · refine v_aload_n (pc' := 14) F dX5_wasMadeFrom_13 rfl (j := 0) rfl rfl ?_
        refine v_getf (pc' := 17) (v := .ref u) F k_X5_wasMadeFrom_5 hv 0 (by decide) m_X5_wasMadeFrom_f35 rfl dX5_wasMadeFrom_14 rfl ?_
        refine v_astore_n (pc' := 18) (i := 2) (L' := [(2, .ref u), (1, .ref w), (0, .ref v0)]) F dX5_wasMadeFrom_17 rfl (by decide) rfl rfl ?_
        refine v_goto (tgt := 2) F dX5_wasMadeFrom_18 (by decide) ?_
        refine v_sub (L' := [(2, .ref u), (1, .ref w), (0, .ref v0)]) [0, 1, 2] rfl ?_
        exact ih hU (by have e9 : (w ∈ v :: u :: as) ↔ (w ∈ u :: as) := ⟨fun z => (List.mem_cons.mp z).resolve_left (fun y => c (by rw [y])), fun z => List.mem_cons_of_mem _ z⟩; by_cases z : w ∈ u :: as; (rw [if_pos (e9.mpr z)] at hp; rw [if_pos z]; exact hp); (rw [if_neg (fun y => z (e9.mp y))] at hp; rw [if_neg z]; exact hp))
      · refine v_iconst (pc' := 12) (v := nI 1) F dX5_wasMadeFrom_11 (by decide) rfl ?_
        exact v_zret F E (by omega) (by omega) (by decide) dX5_wasMadeFrom_12 (by rw [if_pos (by cases c; exact List.mem_cons_self)] at hp; exact hp)
set_option maxHeartbeats 4000000 in
set_option maxRecDepth 100000 in
theorem c_X5_wasMadeFrom (G : gG) (z0 : Nat) (l : Launch) {h : gH} {v w : Nat} {os : List mO} {as : List Nat} (hV : isVc h os (v :: as)) : gC G z0 l yX5_wasMadeFrom wsX5_wasMadeFrom 0 0 [.ref v, .ref w] h (fun o h' => o = some (.int (if w ∈ v :: as then nI 1 else nI 0)) ∧ h' = h) 0 0 := by
  refine gC_of (cc := cX5_wasMadeFrom) (nL := 3) (ret := (some .boolean)) (by decide) rfl (Nat.le_of_ble_eq_true rfl) ?_
  intro X F E _
  change gF G z0 X cX5_wasMadeFrom 3 RX5 wsX5_wasMadeFrom (some .boolean) "wasMadeFrom" 0 0 _ _ at F
  show gV G z0 X 0 0 h 0 [(0, .ref v), (1, .ref w)] []
  refine v_aload_n (pc' := 1) F dX5_wasMadeFrom_0 rfl (j := 0) rfl rfl ?_
  refine v_astore_n (pc' := 2) (i := 2) (L' := [(2, .ref v), (0, .ref v), (1, .ref w)]) F dX5_wasMadeFrom_1 rfl (by decide) rfl rfl ?_
  refine v_sub (L' := [(2, .ref v), (1, .ref w), (0, .ref v)]) [0, 2, 1] rfl ?_
  exact lp_X5_wasMadeFrom F E (Nat.le_refl _) (Nat.le_refl _) hV ⟨rfl, rfl⟩
/-- a list by its number -/
def qList (q : mQ) (k : Nat) : List Int32 :=
  match q with
  | (f, r, _, _, (_, _, oF, nF, oR, nR)) => match k with
    | 1 => f
    | 2 => r
    | 3 => oF
    | 4 => nF
    | 5 => oR
    | _ => nR
theorem k_X5_listOf_5 : gCl wsX5_listOf 5 RX5 TX5 9 := ⟨by decide +kernel, rfl⟩
theorem m_X5_listOf_f18 : Cond.fieldLink RX5 18 "SteadyQueues$Version" "front" "LSteadyQueues$Cell;" ∈ wsX5_listOf := by decide +kernel
theorem m_X5_listOf_f22 : Cond.fieldLink RX5 22 "SteadyQueues$Version" "rear" "LSteadyQueues$Cell;" ∈ wsX5_listOf := by decide +kernel
theorem m_X5_listOf_f12 : Cond.fieldLink RX5 12 "SteadyQueues$Version" "turn" "LSteadyQueues$Turn;" ∈ wsX5_listOf := by decide +kernel
theorem k_X5_listOf_4 : gCl wsX5_listOf 4 RX4 TX4 6 := ⟨by decide +kernel, rfl⟩
theorem m_X5_listOf_f76 : Cond.fieldLink RX5 76 "SteadyQueues$Turn" "oldFront" "LSteadyQueues$Cell;" ∈ wsX5_listOf := by decide +kernel
theorem m_X5_listOf_f79 : Cond.fieldLink RX5 79 "SteadyQueues$Turn" "newFront" "LSteadyQueues$Cell;" ∈ wsX5_listOf := by decide +kernel
theorem m_X5_listOf_f82 : Cond.fieldLink RX5 82 "SteadyQueues$Turn" "oldRear" "LSteadyQueues$Cell;" ∈ wsX5_listOf := by decide +kernel
theorem m_X5_listOf_f85 : Cond.fieldLink RX5 85 "SteadyQueues$Turn" "newRear" "LSteadyQueues$Cell;" ∈ wsX5_listOf := by decide +kernel
set_option maxHeartbeats 4000000 in
set_option maxRecDepth 100000 in
theorem c_X5_listOf (G : gG) (z0 : Nat) (l : Launch) {h : gH} {v t dp st k : Nat} {par : Option Nat} {pu : Int32} {q : mQ} (hk : 1 ≤ k ∧ k ≤ 6) (hV : isVt h v t par pu dp q st) : gC G z0 l yX5_listOf wsX5_listOf 0 0 [.ref v, .int (nI k)] h (fun o h' => ∃ r, o = some (va_rf r) ∧ isL h (qList q k) r ∧ h' = h) 0 0 := by
  obtain ⟨f, r, fl, rl, k0, ok, oF, nF, oR, nR⟩ := q
  obtain ⟨a, b1, hv, ha, hb1, ta, tb, tc, td, ht, hta, htb, htc, htd⟩ := id hV
  have hk6 : k = 1 ∨ k = 2 ∨ k = 3 ∨ k = 4 ∨ k = 5 ∨ k = 6 := by omega
  rcases hk6 with rfl | rfl | rfl | rfl | rfl | rfl
  · refine gC_of (cc := cX5_listOf) (nL := 2) (ret := (some (.object "SteadyQueues$Cell"))) (by decide) rfl (Nat.le_of_ble_eq_true rfl) ?_
    intro X F E _
    change gF G z0 X cX5_listOf 2 RX5 wsX5_listOf (some (.object "SteadyQueues$Cell")) "listOf" 0 0 _ _ at F
    show gV G z0 X 0 0 h 0 [(0, .ref v), (1, .int (nI 1))] []
    refine v_iload_n (pc' := 1) F dX5_listOf_0 rfl (j := 1) rfl rfl ?_
    refine v_tableIn (tgt := 40) (off := 39) F dX5_listOf_1 (by decide) (by decide) rfl (by decide) ?_
    refine v_aload_n (pc' := 41) F dX5_listOf_40 rfl (j := 0) rfl rfl ?_
    refine v_getf (pc' := 44) (v := va_rf a) F k_X5_listOf_5 hv 4 (by decide) m_X5_listOf_f18 rfl dX5_listOf_41 rfl ?_
    exact v_aret (r := a) F E (by omega) (by omega) dX5_listOf_44 ⟨a, rfl, ha, rfl⟩
  · refine gC_of (cc := cX5_listOf) (nL := 2) (ret := (some (.object "SteadyQueues$Cell"))) (by decide) rfl (Nat.le_of_ble_eq_true rfl) ?_
    intro X F E _
    change gF G z0 X cX5_listOf 2 RX5 wsX5_listOf (some (.object "SteadyQueues$Cell")) "listOf" 0 0 _ _ at F
    show gV G z0 X 0 0 h 0 [(0, .ref v), (1, .int (nI 2))] []
    refine v_iload_n (pc' := 1) F dX5_listOf_0 rfl (j := 1) rfl rfl ?_
    refine v_tableIn (tgt := 45) (off := 44) F dX5_listOf_1 (by decide) (by decide) rfl (by decide) ?_
    refine v_aload_n (pc' := 46) F dX5_listOf_45 rfl (j := 0) rfl rfl ?_
    refine v_getf (pc' := 49) (v := va_rf b1) F k_X5_listOf_5 hv 5 (by decide) m_X5_listOf_f22 rfl dX5_listOf_46 rfl ?_
    exact v_aret (r := b1) F E (by omega) (by omega) dX5_listOf_49 ⟨b1, rfl, hb1, rfl⟩
  · refine gC_of (cc := cX5_listOf) (nL := 2) (ret := (some (.object "SteadyQueues$Cell"))) (by decide) rfl (Nat.le_of_ble_eq_true rfl) ?_
    intro X F E _
    change gF G z0 X cX5_listOf 2 RX5 wsX5_listOf (some (.object "SteadyQueues$Cell")) "listOf" 0 0 _ _ at F
    show gV G z0 X 0 0 h 0 [(0, .ref v), (1, .int (nI 3))] []
    refine v_iload_n (pc' := 1) F dX5_listOf_0 rfl (j := 1) rfl rfl ?_
    refine v_tableIn (tgt := 50) (off := 49) F dX5_listOf_1 (by decide) (by decide) rfl (by decide) ?_
    refine v_aload_n (pc' := 51) F dX5_listOf_50 rfl (j := 0) rfl rfl ?_
    refine v_getf (pc' := 54) (v := .ref t) F k_X5_listOf_5 hv 3 (by decide) m_X5_listOf_f12 rfl dX5_listOf_51 rfl ?_
    refine v_getf (pc' := 57) (v := va_rf ta) F k_X5_listOf_4 ht 2 (by decide) m_X5_listOf_f76 rfl dX5_listOf_54 rfl ?_
    exact v_aret (r := ta) F E (by omega) (by omega) dX5_listOf_57 ⟨ta, rfl, hta, rfl⟩
  · refine gC_of (cc := cX5_listOf) (nL := 2) (ret := (some (.object "SteadyQueues$Cell"))) (by decide) rfl (Nat.le_of_ble_eq_true rfl) ?_
    intro X F E _
    change gF G z0 X cX5_listOf 2 RX5 wsX5_listOf (some (.object "SteadyQueues$Cell")) "listOf" 0 0 _ _ at F
    show gV G z0 X 0 0 h 0 [(0, .ref v), (1, .int (nI 4))] []
    refine v_iload_n (pc' := 1) F dX5_listOf_0 rfl (j := 1) rfl rfl ?_
    refine v_tableIn (tgt := 58) (off := 57) F dX5_listOf_1 (by decide) (by decide) rfl (by decide) ?_
    refine v_aload_n (pc' := 59) F dX5_listOf_58 rfl (j := 0) rfl rfl ?_
    refine v_getf (pc' := 62) (v := .ref t) F k_X5_listOf_5 hv 3 (by decide) m_X5_listOf_f12 rfl dX5_listOf_59 rfl ?_
    refine v_getf (pc' := 65) (v := va_rf tb) F k_X5_listOf_4 ht 3 (by decide) m_X5_listOf_f79 rfl dX5_listOf_62 rfl ?_
    exact v_aret (r := tb) F E (by omega) (by omega) dX5_listOf_65 ⟨tb, rfl, htb, rfl⟩
  · refine gC_of (cc := cX5_listOf) (nL := 2) (ret := (some (.object "SteadyQueues$Cell"))) (by decide) rfl (Nat.le_of_ble_eq_true rfl) ?_
    intro X F E _
    change gF G z0 X cX5_listOf 2 RX5 wsX5_listOf (some (.object "SteadyQueues$Cell")) "listOf" 0 0 _ _ at F
    show gV G z0 X 0 0 h 0 [(0, .ref v), (1, .int (nI 5))] []
    refine v_iload_n (pc' := 1) F dX5_listOf_0 rfl (j := 1) rfl rfl ?_
    refine v_tableIn (tgt := 66) (off := 65) F dX5_listOf_1 (by decide) (by decide) rfl (by decide) ?_
    refine v_aload_n (pc' := 67) F dX5_listOf_66 rfl (j := 0) rfl rfl ?_
    refine v_getf (pc' := 70) (v := .ref t) F k_X5_listOf_5 hv 3 (by decide) m_X5_listOf_f12 rfl dX5_listOf_67 rfl ?_
    refine v_getf (pc' := 73) (v := va_rf tc) F k_X5_listOf_4 ht 4 (by decide) m_X5_listOf_f82 rfl dX5_listOf_70 rfl ?_
    exact v_aret (r := tc) F E (by omega) (by omega) dX5_listOf_73 ⟨tc, rfl, htc, rfl⟩
  · refine gC_of (cc := cX5_listOf) (nL := 2) (ret := (some (.object "SteadyQueues$Cell"))) (by decide) rfl (Nat.le_of_ble_eq_true rfl) ?_
    intro X F E _
    change gF G z0 X cX5_listOf 2 RX5 wsX5_listOf (some (.object "SteadyQueues$Cell")) "listOf" 0 0 _ _ at F
    show gV G z0 X 0 0 h 0 [(0, .ref v), (1, .int (nI 6))] []
    refine v_iload_n (pc' := 1) F dX5_listOf_0 rfl (j := 1) rfl rfl ?_
    refine v_tableIn (tgt := 74) (off := 73) F dX5_listOf_1 (by decide) (by decide) rfl (by decide) ?_
    refine v_aload_n (pc' := 75) F dX5_listOf_74 rfl (j := 0) rfl rfl ?_
    refine v_getf (pc' := 78) (v := .ref t) F k_X5_listOf_5 hv 3 (by decide) m_X5_listOf_f12 rfl dX5_listOf_75 rfl ?_
    refine v_getf (pc' := 81) (v := va_rf td) F k_X5_listOf_4 ht 5 (by decide) m_X5_listOf_f85 rfl dX5_listOf_78 rfl ?_
    exact v_aret (r := td) F E (by omega) (by omega) dX5_listOf_81 ⟨td, rfl, htd, rfl⟩

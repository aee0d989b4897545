/-! A BOOK: WHAT IT TELLS -/
def hdP (os : List mO) : Int32 := match os with
  | [] => -1
  | o :: _ => o.1
def isVx (h : gH) (v : Nat) (pa : Option Nat) (os : List mO) : Prop := ∃ t, isVt h v t pa (hdP os) os.length (qOf os).1 (qOf os).2
theorem isVx.pv {h h' : gH} {v : Nat} {pa : Option Nat} {os : List mO} (f : gpv h h') (w : isVx h v pa os) : isVx h' v pa os := by
  obtain ⟨t, w⟩ := w
  exact ⟨t, w.pv f⟩
theorem isVc.x {h : gH} {os : List mO} {v : Nat} {as : List Nat} (w : isVc h os (v :: as)) : isVx h v as.head? os := by
  cases os with
  | nil =>
    cases as with
    | nil => exact w
    | cons u as => exact w.elim
  | cons o os =>
    cases as with
    | nil => exact w.elim
    | cons u as => obtain ⟨t, w, -⟩ := w; exact ⟨t, w⟩
theorem isVx.obj {h : gH} {os : List mO} {v : Nat} {pa : Option Nat} (w : isVx h v pa os) : ∃ (t : Nat) (a b : Option Nat), h v = some (.inr (5, [va_rf pa, .int (hdP os), .int (nI os.length), .ref t, va_rf a, va_rf b, .int (nI (qOf os).1.2.2.1), .int (nI (qOf os).1.2.2.2.1), .int (nI (qOf os).2)])) ∧ isL h (qOf os).1.1 a ∧ isL h (qOf os).1.2.1 b ∧ isT h t (qOf os).1.2.2.2.2 ∧ ∃ (x3 x4 x5 x6 : Option Nat), h t = some (.inr (4, [.int (nI (qOf os).1.2.2.2.2.1), .int (nI (qOf os).1.2.2.2.2.2.1), va_rf x3, va_rf x4, va_rf x5, va_rf x6])) := by
  obtain ⟨t, w⟩ := w
  generalize (qOf os).1 = q at w ⊢
  obtain ⟨f, r, fl, rl, k, ok, oF, nF, oR, nR⟩ := q
  obtain ⟨a, b, h1, h2, h3, h4⟩ := w
  refine ⟨t, a, b, h1, h2, h3, h4, ?_⟩
  obtain ⟨x3, x4, x5, x6, h5, -⟩ := h4
  exact ⟨x3, x4, x5, x6, h5⟩
def isBk (G : gG) (h : gH) (b va n pc dr : Nat) (ad : Nat → Nat) : Prop := h b = some (.inr (0, [.ref va, .int (nI n), .int (nI pc), .int (nI dr)])) ∧ ∃ f, h va = some (oV G 64 f) ∧ ∀ i, i < n → f i = some (ad i)
def gsum (f : Nat → Nat) : Nat → Nat
  | 0 => 0
  | n + 1 => gsum f n + f n
def gmax (f : Nat → Nat) : Nat → Nat
  | 0 => 0
  | n + 1 => max (gmax f n) (f n)
theorem gsum_s (f : Nat → Nat) (n : Nat) : gsum f (n + 1) = gsum f n + f n := rfl
theorem gmax_s (f : Nat → Nat) (n : Nat) : gmax f (n + 1) = max (gmax f n) (f n) := rfl
theorem gsum_le {f : Nat → Nat} {c : Nat} : ∀ {n : Nat}, (∀ i, i < n → f i ≤ c) → gsum f n ≤ n * c
  | 0, _ => Nat.zero_le _
  | n + 1, h => by
    have h1 := gsum_le (n := n) (fun i hi => h i (by omega))
    have h2 := h n (by omega)
    rw [gsum_s, Nat.succ_mul]; omega
theorem gmax_le {f : Nat → Nat} {c : Nat} : ∀ {n : Nat}, (∀ i, i < n → f i ≤ c) → gmax f n ≤ c
  | 0, _ => Nat.zero_le _
  | n + 1, h => by
    have h1 := gmax_le (n := n) (fun i hi => h i (by omega))
    have h2 := h n (by omega)
    rw [gmax_s]; omega
theorem gsum_congr {f g : Nat → Nat} : ∀ {n : Nat}, (∀ i, i < n → f i = g i) → gsum f n = gsum g n
  | 0, _ => rfl
  | n + 1, h => by rw [gsum_s, gsum_s, gsum_congr (fun i hi => h i (by omega)), h n (by omega)]
theorem gmax_congr {f g : Nat → Nat} : ∀ {n : Nat}, (∀ i, i < n → f i = g i) → gmax f n = gmax g n
  | 0, _ => rfl
  | n + 1, h => by rw [gmax_s, gmax_s, gmax_congr (fun i hi => h i (by omega)), h n (by omega)]
theorem qOf_fl {os : List mO} (h : wOk os) : (qOf os).1.2.2.1 + (qOf os).1.2.2.2.1 = (wVals os).length ∧ (qOf os).1.2.2.1 ≤ os.length ∧ (qOf os).1.2.2.2.1 ≤ os.length := by
  have hJ := qOf_J h
  generalize (qOf os).1 = q at hJ ⊢
  obtain ⟨f, r, fl, rl, T⟩ := q
  obtain ⟨⟨h1, h2, h3, h4, h5⟩, -⟩ := hJ
  exact ⟨h2, by show fl ≤ _; omega, by show rl ≤ _; omega⟩
theorem qOf_small {os : List mO} (h : wOk os) : (qOf os).1.2.2.2.2.1 < 4 ∧ (qOf os).1.2.2.2.2.2.1 ≤ os.length := by
  have hJ := qOf_J h
  generalize (qOf os).1 = q at hJ ⊢
  obtain ⟨f, r, fl, rl, k, ok, oF, nF, oR, nR⟩ := q
  obtain ⟨p1, p2, p3, p4, p5, p6, p7⟩ := qVals_parts hJ
  exact ⟨p6, p5⟩
theorem k_X0_allSteps_0 : gCl wsX0_allSteps 0 RX0 TX0 4 := ⟨by decide +kernel, rfl⟩
theorem m_X0_allSteps_f17 : Cond.fieldLink RX0 17 "SteadyQueues$Book" "count" "I" ∈ wsX0_allSteps := by decide +kernel
theorem m_X0_allSteps_f11 : Cond.fieldLink RX0 11 "SteadyQueues$Book" "versions" "[LSteadyQueues$Version;" ∈ wsX0_allSteps := by decide +kernel
theorem k_X0_allSteps_5 : gCl wsX0_allSteps 5 RX5 TX5 9 := ⟨by decide +kernel, rfl⟩
theorem m_X0_allSteps_f97 : Cond.fieldLink RX0 97 "SteadyQueues$Version" "steps" "I" ∈ wsX0_allSteps := by decide +kernel
set_option maxHeartbeats 4000000 in
set_option maxRecDepth 100000 in
theorem lp_X0_allSteps {G : gG} {z0 : Nat} {X : gX} {post : Option Value → gH → Prop} {mc ms cells slots m i acc : Nat} {h : gH} {b va n pc dr : Nat} {ad : Nat → Nat} {pa : Nat → Option Nat} {os : Nat → List mO}  (F : gF G z0 X cX0_allSteps 3 RX0 wsX0_allSteps (some .int) "allSteps" 0 0 mc ms) (E : gE G z0 X post mc ms) (hcc : cells ≤ mc) (hss : slots ≤ ms) (hn : n ≤ 64) (hB : isBk G h b va n pc dr ad) (hVs : ∀ i, i < n → isVx h (ad i) (pa i) (os i)) (hO : ∀ i, i < n → wOk (os i) ∧ (os i).length < 64) (hA : ∀ j, j ≤ n → gsum (fun i => (qOf (os i)).2) j < 65536) (hm : n = i + m) (ha : acc = gsum (fun i => (qOf (os i)).2) i) (hp : post (some (.int (nI (gsum (fun i => (qOf (os i)).2) n)))) h) : gV G z0 X cells slots h 4 [(2, .int (nI i)), (1, .int (nI acc)), (0, .ref b)] [] := by
  induction m generalizing i acc with
  | zero =>
    obtain ⟨hb, f, hva, hf⟩ := id hB
    have hin : i = n := by omega
    subst hin
    subst ha
    refine v_iload_n (pc' := 5) F dX0_allSteps_4 rfl (j := 0) rfl rfl ?_
    refine v_aload_n (pc' := 6) F dX0_allSteps_5 rfl (j := 2) rfl rfl ?_
    refine v_getf (pc' := 9) (v := .int (nI i)) F k_X0_allSteps_0 hb 1 (by decide) m_X0_allSteps_f17 rfl dX0_allSteps_6 rfl ?_
    refine w_icmp_ge (tgt := 30) (pc' := 12) F (by omega) (by omega) dX0_allSteps_9 (by decide) rfl (fun _ => ?_) (fun c0 => absurd c0 (by omega))
    refine v_iload_n (pc' := 31) F dX0_allSteps_30 rfl (j := 1) rfl rfl ?_
    exact v_iret F E (by omega) (by omega)  dX0_allSteps_31 hp
  | succ m ih =>
    obtain ⟨hb, f, hva, hf⟩ := id hB
    have hO1 := hO i (by omega)
    have hq4 := qOf_le hO1.1
    have hqf := qOf_fl hO1.1
    have hqs := qOf_small hO1.1
    have hac := hA i (by omega)
    obtain ⟨ti, ai, bi, hvi, hfai, hfbi, hTi, x3i, x4i, x5i, x6i, hti⟩ := (hVs i (by omega)).obj
    refine v_iload_n (pc' := 5) F dX0_allSteps_4 rfl (j := 0) rfl rfl ?_
    refine v_aload_n (pc' := 6) F dX0_allSteps_5 rfl (j := 2) rfl rfl ?_
    refine v_getf (pc' := 9) (v := .int (nI n)) F k_X0_allSteps_0 hb 1 (by decide) m_X0_allSteps_f17 rfl dX0_allSteps_6 rfl ?_
    refine w_icmp_ge (tgt := 30) (pc' := 12) F (by omega) (by omega) dX0_allSteps_9 (by decide) rfl (fun c0 => absurd c0 (by omega)) (fun _ => ?_)
    refine v_iload_n (pc' := 13) F dX0_allSteps_12 rfl (j := 1) rfl rfl ?_
    refine v_aload_n (pc' := 14) F dX0_allSteps_13 rfl (j := 2) rfl rfl ?_
    refine v_getf (pc' := 17) (v := .ref va) F k_X0_allSteps_0 hb 0 (by decide) m_X0_allSteps_f11 rfl dX0_allSteps_14 rfl ?_
    refine v_iload_n (pc' := 18) F dX0_allSteps_17 rfl (j := 0) rfl rfl ?_
    refine w_vald (pc' := 19) (v := some (ad i)) F hva (by omega) (by omega) (hf i (by omega)) dX0_allSteps_18 rfl ?_
    refine v_getf (pc' := 22) (v := .int (nI ((qOf (os i)).2))) F k_X0_allSteps_5 hvi 8 (by decide) m_X0_allSteps_f97 rfl dX0_allSteps_19 rfl ?_
    refine v_iadd (pc' := 23) (v := nI (acc + ((qOf (os i)).2))) F dX0_allSteps_22 (nI_add acc ((qOf (os i)).2)) rfl ?_
    refine v_istore_n (pc' := 24) (i := 1) (L' := [(1, .int (nI (acc + ((qOf (os i)).2)))), (2, .int (nI i)), (0, .ref b)]) F dX0_allSteps_23 rfl (by decide) rfl rfl ?_
    refine v_iinc (pc' := 27) (j := 1) (x := nI i) (v := nI (i + 1)) (L' := [(2, .int (nI (i + 1))), (1, .int (nI (acc + ((qOf (os i)).2)))), (0, .ref b)]) F dX0_allSteps_24 rfl (nI_add i 1) (by decide) rfl rfl ?_
    refine v_goto (tgt := 4) F dX0_allSteps_27 (by decide) ?_
    refine v_sub (L' := [(2, .int (nI (i + 1))), (1, .int (nI (acc + ((qOf (os i)).2)))), (0, .ref b)]) [0, 1, 2] rfl ?_
    exact ih (i := i + 1) (acc := acc + (qOf (os i)).2) (by omega) (by rw [gsum_s, ha])
set_option maxHeartbeats 4000000 in
set_option maxRecDepth 100000 in
theorem c_X0_allSteps (G : gG) (z0 : Nat) (l : Launch) {h : gH} {b va n pc dr : Nat} {ad : Nat → Nat} {pa : Nat → Option Nat} {os : Nat → List mO} (hn : n ≤ 64) (hB : isBk G h b va n pc dr ad) (hVs : ∀ i, i < n → isVx h (ad i) (pa i) (os i)) (hO : ∀ i, i < n → wOk (os i) ∧ (os i).length < 64) : gC G z0 l yX0_allSteps wsX0_allSteps 0 0 [.ref b] h (fun o h' => o = some (.int (nI (gsum (fun i => (qOf (os i)).2) n))) ∧ h' = h) 0 0 := by
  refine gC_of (cc := cX0_allSteps) (nL := 3) (ret := (some .int)) (by decide) rfl (Nat.le_of_ble_eq_true rfl) ?_
  intro X F E _
  change gF G z0 X cX0_allSteps 3 RX0 wsX0_allSteps (some .int) "allSteps" 0 0 _ _ at F
  show gV G z0 X 0 0 h 0 [(0, .ref b)] []
  refine v_iconst (pc' := 1) (v := nI 0) F dX0_allSteps_0 (by decide) rfl ?_
  refine v_istore_n (pc' := 2) (i := 1) (L' := [(1, .int (nI 0)), (0, .ref b)]) F dX0_allSteps_1 rfl (by decide) rfl rfl ?_
  refine v_iconst (pc' := 3) (v := nI 0) F dX0_allSteps_2 (by decide) rfl ?_
  refine v_istore_n (pc' := 4) (i := 2) (L' := [(2, .int (nI 0)), (1, .int (nI 0)), (0, .ref b)]) F dX0_allSteps_3 rfl (by decide) rfl rfl ?_
  refine v_sub (L' := [(2, .int (nI 0)), (1, .int (nI 0)), (0, .ref b)]) [0, 1, 2] rfl ?_
  exact lp_X0_allSteps (i := 0) (m := n) F E (Nat.le_refl _) (Nat.le_refl _) hn hB hVs hO (fun j hj => by have := gsum_le (f := (fun i => (qOf (os i)).2)) (c := 4) (n := j) (fun i hi => by exact qOf_le (hO i (by omega)).1); omega) (by omega) rfl ⟨rfl, rfl⟩
theorem k_X0_mostSteps_0 : gCl wsX0_mostSteps 0 RX0 TX0 4 := ⟨by decide +kernel, rfl⟩
theorem m_X0_mostSteps_f17 : Cond.fieldLink RX0 17 "SteadyQueues$Book" "count" "I" ∈ wsX0_mostSteps := by decide +kernel
theorem m_X0_mostSteps_f11 : Cond.fieldLink RX0 11 "SteadyQueues$Book" "versions" "[LSteadyQueues$Version;" ∈ wsX0_mostSteps := by decide +kernel
theorem k_X0_mostSteps_5 : gCl wsX0_mostSteps 5 RX5 TX5 9 := ⟨by decide +kernel, rfl⟩
theorem m_X0_mostSteps_f97 : Cond.fieldLink RX0 97 "SteadyQueues$Version" "steps" "I" ∈ wsX0_mostSteps := by decide +kernel
theorem m_X0_mostSteps_ml113 : Cond.methodLink RX0 113 Lib.Math.max.name ∈ wsX0_mostSteps := by decide +kernel
theorem m_X0_mostSteps_msmax : Cond.static Lib.Math.max.name ∈ wsX0_mostSteps := by decide +kernel
theorem m_X0_mostSteps_mi : Cond.initialized "java/lang/Math" ∈ wsX0_mostSteps := by decide +kernel
theorem m_X0_mostSteps_mcmax : Cond.code Lib.Math.max.name Lib.Math.max.code 2 (some .int) ∈ wsX0_mostSteps := by decide +kernel
set_option maxHeartbeats 4000000 in
set_option maxRecDepth 100000 in
theorem lp_X0_mostSteps {G : gG} {z0 : Nat} {X : gX} {post : Option Value → gH → Prop} {mc ms cells slots m i acc : Nat} {h : gH} {b va n pc dr : Nat} {ad : Nat → Nat} {pa : Nat → Option Nat} {os : Nat → List mO}  (F : gF G z0 X cX0_mostSteps 3 RX0 wsX0_mostSteps (some .int) "mostSteps" 1 21 mc ms) (E : gE G z0 X post mc ms) (hcc : cells ≤ mc) (hss : slots ≤ ms) (hn : n ≤ 64) (hB : isBk G h b va n pc dr ad) (hVs : ∀ i, i < n → isVx h (ad i) (pa i) (os i)) (hO : ∀ i, i < n → wOk (os i) ∧ (os i).length < 64) (hA : ∀ j, j ≤ n → gmax (fun i => (qOf (os i)).2) j < 65536) (hm : n = i + m) (ha : acc = gmax (fun i => (qOf (os i)).2) i) (hp : post (some (.int (nI (gmax (fun i => (qOf (os i)).2) n)))) h) : gV G z0 X cells slots h 4 [(2, .int (nI i)), (1, .int (nI acc)), (0, .ref b)] [] := by
  induction m generalizing i acc with
  | zero =>
    obtain ⟨hb, f, hva, hf⟩ := id hB
    have hin : i = n := by omega
    subst hin
    subst ha
    refine v_iload_n (pc' := 5) F dX0_mostSteps_4 rfl (j := 0) rfl rfl ?_
    refine v_aload_n (pc' := 6) F dX0_mostSteps_5 rfl (j := 2) rfl rfl ?_
    refine v_getf (pc' := 9) (v := .int (nI i)) F k_X0_mostSteps_0 hb 1 (by decide) m_X0_mostSteps_f17 rfl dX0_mostSteps_6 rfl ?_
    refine w_icmp_ge (tgt := 32) (pc' := 12) F (by omega) (by omega) dX0_mostSteps_9 (by decide) rfl (fun _ => ?_) (fun c0 => absurd c0 (by omega))
    refine v_iload_n (pc' := 33) F dX0_mostSteps_32 rfl (j := 1) rfl rfl ?_
    exact v_iret F E (by omega) (by omega)  dX0_mostSteps_33 hp
  | succ m ih =>
    obtain ⟨hb, f, hva, hf⟩ := id hB
    have hO1 := hO i (by omega)
    have hq4 := qOf_le hO1.1
    have hqf := qOf_fl hO1.1
    have hqs := qOf_small hO1.1
    have hac := hA i (by omega)
    obtain ⟨ti, ai, bi, hvi, hfai, hfbi, hTi, x3i, x4i, x5i, x6i, hti⟩ := (hVs i (by omega)).obj
    refine v_iload_n (pc' := 5) F dX0_mostSteps_4 rfl (j := 0) rfl rfl ?_
    refine v_aload_n (pc' := 6) F dX0_mostSteps_5 rfl (j := 2) rfl rfl ?_
    refine v_getf (pc' := 9) (v := .int (nI n)) F k_X0_mostSteps_0 hb 1 (by decide) m_X0_mostSteps_f17 rfl dX0_mostSteps_6 rfl ?_
    refine w_icmp_ge (tgt := 32) (pc' := 12) F (by omega) (by omega) dX0_mostSteps_9 (by decide) rfl (fun c0 => absurd c0 (by omega)) (fun _ => ?_)
    refine v_iload_n (pc' := 13) F dX0_mostSteps_12 rfl (j := 1) rfl rfl ?_
    refine v_aload_n (pc' := 14) F dX0_mostSteps_13 rfl (j := 2) rfl rfl ?_
    refine v_getf (pc' := 17) (v := .ref va) F k_X0_mostSteps_0 hb 0 (by decide) m_X0_mostSteps_f11 rfl dX0_mostSteps_14 rfl ?_
    refine v_iload_n (pc' := 18) F dX0_mostSteps_17 rfl (j := 0) rfl rfl ?_
    refine w_vald (pc' := 19) (v := some (ad i)) F hva (by omega) (by omega) (hf i (by omega)) dX0_mostSteps_18 rfl ?_
    refine v_getf (pc' := 22) (v := .int (nI ((qOf (os i)).2))) F k_X0_mostSteps_5 hvi 8 (by decide) m_X0_mostSteps_f97 rfl dX0_mostSteps_19 rfl ?_
    refine v_mmax (pc' := 25) (v := nI (max acc ((qOf (os i)).2))) F m_X0_mostSteps_ml113 m_X0_mostSteps_msmax m_X0_mostSteps_mi m_X0_mostSteps_mcmax (by decide) (Nat.le_of_ble_eq_true rfl) (by omega) (by omega) (g_maxn (by omega) (by omega)) dX0_mostSteps_22 rfl ?_
    refine v_istore_n (pc' := 26) (i := 1) (L' := [(1, .int (nI (max acc ((qOf (os i)).2)))), (2, .int (nI i)), (0, .ref b)]) F dX0_mostSteps_25 rfl (by decide) rfl rfl ?_
    refine v_iinc (pc' := 29) (j := 1) (x := nI i) (v := nI (i + 1)) (L' := [(2, .int (nI (i + 1))), (1, .int (nI (max acc ((qOf (os i)).2)))), (0, .ref b)]) F dX0_mostSteps_26 rfl (nI_add i 1) (by decide) rfl rfl ?_
    refine v_goto (tgt := 4) F dX0_mostSteps_29 (by decide) ?_
    refine v_sub (L' := [(2, .int (nI (i + 1))), (1, .int (nI (max acc ((qOf (os i)).2)))), (0, .ref b)]) [0, 1, 2] rfl ?_
    exact ih (i := i + 1) (acc := max acc (qOf (os i)).2) (by omega) (by rw [gmax_s, ha])
set_option maxHeartbeats 4000000 in
set_option maxRecDepth 100000 in
theorem c_X0_mostSteps (G : gG) (z0 : Nat) (l : Launch) {h : gH} {b va n pc dr : Nat} {ad : Nat → Nat} {pa : Nat → Option Nat} {os : Nat → List mO} (hn : n ≤ 64) (hB : isBk G h b va n pc dr ad) (hVs : ∀ i, i < n → isVx h (ad i) (pa i) (os i)) (hO : ∀ i, i < n → wOk (os i) ∧ (os i).length < 64) : gC G z0 l yX0_mostSteps wsX0_mostSteps 1 21 [.ref b] h (fun o h' => o = some (.int (nI (gmax (fun i => (qOf (os i)).2) n))) ∧ h' = h) 0 0 := by
  refine gC_of (cc := cX0_mostSteps) (nL := 3) (ret := (some .int)) (by decide) rfl (Nat.le_of_ble_eq_true rfl) ?_
  intro X F E _
  change gF G z0 X cX0_mostSteps 3 RX0 wsX0_mostSteps (some .int) "mostSteps" 1 21 _ _ at F
  show gV G z0 X 0 0 h 0 [(0, .ref b)] []
  refine v_iconst (pc' := 1) (v := nI 0) F dX0_mostSteps_0 (by decide) rfl ?_
  refine v_istore_n (pc' := 2) (i := 1) (L' := [(1, .int (nI 0)), (0, .ref b)]) F dX0_mostSteps_1 rfl (by decide) rfl rfl ?_
  refine v_iconst (pc' := 3) (v := nI 0) F dX0_mostSteps_2 (by decide) rfl ?_
  refine v_istore_n (pc' := 4) (i := 2) (L' := [(2, .int (nI 0)), (1, .int (nI 0)), (0, .ref b)]) F dX0_mostSteps_3 rfl (by decide) rfl rfl ?_
  refine v_sub (L' := [(2, .int (nI 0)), (1, .int (nI 0)), (0, .ref b)]) [0, 1, 2] rfl ?_
  exact lp_X0_mostSteps (i := 0) (m := n) F E (Nat.le_refl _) (Nat.le_refl _) hn hB hVs hO (fun j hj => by have := gmax_le (f := (fun i => (qOf (os i)).2)) (c := 4) (n := j) (fun i hi => by exact qOf_le (hO i (by omega)).1); omega) (by omega) rfl ⟨rfl, rfl⟩
theorem k_X0_greatestDepth_0 : gCl wsX0_greatestDepth 0 RX0 TX0 4 := ⟨by decide +kernel, rfl⟩
theorem m_X0_greatestDepth_f17 : Cond.fieldLink RX0 17 "SteadyQueues$Book" "count" "I" ∈ wsX0_greatestDepth := by decide +kernel
theorem m_X0_greatestDepth_f11 : Cond.fieldLink RX0 11 "SteadyQueues$Book" "versions" "[LSteadyQueues$Version;" ∈ wsX0_greatestDepth := by decide +kernel
theorem k_X0_greatestDepth_5 : gCl wsX0_greatestDepth 5 RX5 TX5 9 := ⟨by decide +kernel, rfl⟩
theorem m_X0_greatestDepth_f76 : Cond.fieldLink RX0 76 "SteadyQueues$Version" "depth" "I" ∈ wsX0_greatestDepth := by decide +kernel
theorem m_X0_greatestDepth_ml113 : Cond.methodLink RX0 113 Lib.Math.max.name ∈ wsX0_greatestDepth := by decide +kernel
theorem m_X0_greatestDepth_msmax : Cond.static Lib.Math.max.name ∈ wsX0_greatestDepth := by decide +kernel
theorem m_X0_greatestDepth_mi : Cond.initialized "java/lang/Math" ∈ wsX0_greatestDepth := by decide +kernel
theorem m_X0_greatestDepth_mcmax : Cond.code Lib.Math.max.name Lib.Math.max.code 2 (some .int) ∈ wsX0_greatestDepth := by decide +kernel
set_option maxHeartbeats 4000000 in
set_option maxRecDepth 100000 in
theorem lp_X0_greatestDepth {G : gG} {z0 : Nat} {X : gX} {post : Option Value → gH → Prop} {mc ms cells slots m i acc : Nat} {h : gH} {b va n pc dr : Nat} {ad : Nat → Nat} {pa : Nat → Option Nat} {os : Nat → List mO}  (F : gF G z0 X cX0_greatestDepth 3 RX0 wsX0_greatestDepth (some .int) "greatestDepth" 1 21 mc ms) (E : gE G z0 X post mc ms) (hcc : cells ≤ mc) (hss : slots ≤ ms) (hn : n ≤ 64) (hB : isBk G h b va n pc dr ad) (hVs : ∀ i, i < n → isVx h (ad i) (pa i) (os i)) (hO : ∀ i, i < n → wOk (os i) ∧ (os i).length < 64) (hA : ∀ j, j ≤ n → gmax (fun i => (os i).length) j < 65536) (hm : n = i + m) (ha : acc = gmax (fun i => (os i).length) i) (hp : post (some (.int (nI (gmax (fun i => (os i).length) n)))) h) : gV G z0 X cells slots h 4 [(2, .int (nI i)), (1, .int (nI acc)), (0, .ref b)] [] := by
  induction m generalizing i acc with
  | zero =>
    obtain ⟨hb, f, hva, hf⟩ := id hB
    have hin : i = n := by omega
    subst hin
    subst ha
    refine v_iload_n (pc' := 5) F dX0_greatestDepth_4 rfl (j := 0) rfl rfl ?_
    refine v_aload_n (pc' := 6) F dX0_greatestDepth_5 rfl (j := 2) rfl rfl ?_
    refine v_getf (pc' := 9) (v := .int (nI i)) F k_X0_greatestDepth_0 hb 1 (by decide) m_X0_greatestDepth_f17 rfl dX0_greatestDepth_6 rfl ?_
    refine w_icmp_ge (tgt := 32) (pc' := 12) F (by omega) (by omega) dX0_greatestDepth_9 (by decide) rfl (fun _ => ?_) (fun c0 => absurd c0 (by omega))
    refine v_iload_n (pc' := 33) F dX0_greatestDepth_32 rfl (j := 1) rfl rfl ?_
    exact v_iret F E (by omega) (by omega)  dX0_greatestDepth_33 hp
  | succ m ih =>
    obtain ⟨hb, f, hva, hf⟩ := id hB
    have hO1 := hO i (by omega)
    have hq4 := qOf_le hO1.1
    have hqf := qOf_fl hO1.1
    have hqs := qOf_small hO1.1
    have hac := hA i (by omega)
    obtain ⟨ti, ai, bi, hvi, hfai, hfbi, hTi, x3i, x4i, x5i, x6i, hti⟩ := (hVs i (by omega)).obj
    refine v_iload_n (pc' := 5) F dX0_greatestDepth_4 rfl (j := 0) rfl rfl ?_
    refine v_aload_n (pc' := 6) F dX0_greatestDepth_5 rfl (j := 2) rfl rfl ?_
    refine v_getf (pc' := 9) (v := .int (nI n)) F k_X0_greatestDepth_0 hb 1 (by decide) m_X0_greatestDepth_f17 rfl dX0_greatestDepth_6 rfl ?_
    refine w_icmp_ge (tgt := 32) (pc' := 12) F (by omega) (by omega) dX0_greatestDepth_9 (by decide) rfl (fun c0 => absurd c0 (by omega)) (fun _ => ?_)
    refine v_iload_n (pc' := 13) F dX0_greatestDepth_12 rfl (j := 1) rfl rfl ?_
    refine v_aload_n (pc' := 14) F dX0_greatestDepth_13 rfl (j := 2) rfl rfl ?_
    refine v_getf (pc' := 17) (v := .ref va) F k_X0_greatestDepth_0 hb 0 (by decide) m_X0_greatestDepth_f11 rfl dX0_greatestDepth_14 rfl ?_
    refine v_iload_n (pc' := 18) F dX0_greatestDepth_17 rfl (j := 0) rfl rfl ?_
    refine w_vald (pc' := 19) (v := some (ad i)) F hva (by omega) (by omega) (hf i (by omega)) dX0_greatestDepth_18 rfl ?_
    refine v_getf (pc' := 22) (v := .int (nI ((os i).length))) F k_X0_greatestDepth_5 hvi 2 (by decide) m_X0_greatestDepth_f76 rfl dX0_greatestDepth_19 rfl ?_
    refine v_mmax (pc' := 25) (v := nI (max acc ((os i).length))) F m_X0_greatestDepth_ml113 m_X0_greatestDepth_msmax m_X0_greatestDepth_mi m_X0_greatestDepth_mcmax (by decide) (Nat.le_of_ble_eq_true rfl) (by omega) (by omega) (g_maxn (by omega) (by omega)) dX0_greatestDepth_22 rfl ?_
    refine v_istore_n (pc' := 26) (i := 1) (L' := [(1, .int (nI (max acc ((os i).length)))), (2, .int (nI i)), (0, .ref b)]) F dX0_greatestDepth_25 rfl (by decide) rfl rfl ?_
    refine v_iinc (pc' := 29) (j := 1) (x := nI i) (v := nI (i + 1)) (L' := [(2, .int (nI (i + 1))), (1, .int (nI (max acc ((os i).length)))), (0, .ref b)]) F dX0_greatestDepth_26 rfl (nI_add i 1) (by decide) rfl rfl ?_
    refine v_goto (tgt := 4) F dX0_greatestDepth_29 (by decide) ?_
    refine v_sub (L' := [(2, .int (nI (i + 1))), (1, .int (nI (max acc ((os i).length)))), (0, .ref b)]) [0, 1, 2] rfl ?_
    exact ih (i := i + 1) (acc := max acc (os i).length) (by omega) (by rw [gmax_s, ha])
set_option maxHeartbeats 4000000 in
set_option maxRecDepth 100000 in
theorem c_X0_greatestDepth (G : gG) (z0 : Nat) (l : Launch) {h : gH} {b va n pc dr : Nat} {ad : Nat → Nat} {pa : Nat → Option Nat} {os : Nat → List mO} (hn : n ≤ 64) (hB : isBk G h b va n pc dr ad) (hVs : ∀ i, i < n → isVx h (ad i) (pa i) (os i)) (hO : ∀ i, i < n → wOk (os i) ∧ (os i).length < 64) : gC G z0 l yX0_greatestDepth wsX0_greatestDepth 1 21 [.ref b] h (fun o h' => o = some (.int (nI (gmax (fun i => (os i).length) n))) ∧ h' = h) 0 0 := by
  refine gC_of (cc := cX0_greatestDepth) (nL := 3) (ret := (some .int)) (by decide) rfl (Nat.le_of_ble_eq_true rfl) ?_
  intro X F E _
  change gF G z0 X cX0_greatestDepth 3 RX0 wsX0_greatestDepth (some .int) "greatestDepth" 1 21 _ _ at F
  show gV G z0 X 0 0 h 0 [(0, .ref b)] []
  refine v_iconst (pc' := 1) (v := nI 0) F dX0_greatestDepth_0 (by decide) rfl ?_
  refine v_istore_n (pc' := 2) (i := 1) (L' := [(1, .int (nI 0)), (0, .ref b)]) F dX0_greatestDepth_1 rfl (by decide) rfl rfl ?_
  refine v_iconst (pc' := 3) (v := nI 0) F dX0_greatestDepth_2 (by decide) rfl ?_
  refine v_istore_n (pc' := 4) (i := 2) (L' := [(2, .int (nI 0)), (1, .int (nI 0)), (0, .ref b)]) F dX0_greatestDepth_3 rfl (by decide) rfl rfl ?_
  refine v_sub (L' := [(2, .int (nI 0)), (1, .int (nI 0)), (0, .ref b)]) [0, 1, 2] rfl ?_
  exact lp_X0_greatestDepth (i := 0) (m := n) F E (Nat.le_refl _) (Nat.le_refl _) hn hB hVs hO (fun j hj => by have := gmax_le (f := (fun i => (os i).length)) (c := 64) (n := j) (fun i hi => by have := (hO i (by omega)).2; omega); omega) (by omega) rfl ⟨rfl, rfl⟩
theorem k_X0_turning_0 : gCl wsX0_turning 0 RX0 TX0 4 := ⟨by decide +kernel, rfl⟩
theorem m_X0_turning_f17 : Cond.fieldLink RX0 17 "SteadyQueues$Book" "count" "I" ∈ wsX0_turning := by decide +kernel
theorem m_X0_turning_f11 : Cond.fieldLink RX0 11 "SteadyQueues$Book" "versions" "[LSteadyQueues$Version;" ∈ wsX0_turning := by decide +kernel
theorem k_X0_turning_5 : gCl wsX0_turning 5 RX5 TX5 9 := ⟨by decide +kernel, rfl⟩
theorem m_X0_turning_f85 : Cond.fieldLink RX0 85 "SteadyQueues$Version" "turn" "LSteadyQueues$Turn;" ∈ wsX0_turning := by decide +kernel
theorem k_X0_turning_4 : gCl wsX0_turning 4 RX4 TX4 6 := ⟨by decide +kernel, rfl⟩
theorem m_X0_turning_f89 : Cond.fieldLink RX0 89 "SteadyQueues$Turn" "kind" "I" ∈ wsX0_turning := by decide +kernel
set_option maxHeartbeats 4000000 in
set_option maxRecDepth 100000 in
theorem lp_X0_turning {G : gG} {z0 : Nat} {X : gX} {post : Option Value → gH → Prop} {mc ms cells slots m i acc : Nat} {h : gH} {b va n pc dr : Nat} {ad : Nat → Nat} {pa : Nat → Option Nat} {os : Nat → List mO}  (F : gF G z0 X cX0_turning 3 RX0 wsX0_turning (some .int) "turning" 0 0 mc ms) (E : gE G z0 X post mc ms) (hcc : cells ≤ mc) (hss : slots ≤ ms) (hn : n ≤ 64) (hB : isBk G h b va n pc dr ad) (hVs : ∀ i, i < n → isVx h (ad i) (pa i) (os i)) (hO : ∀ i, i < n → wOk (os i) ∧ (os i).length < 64) (hA : ∀ j, j ≤ n → gsum (fun i => if (qOf (os i)).1.2.2.2.2.1 = 0 then 0 else 1) j < 65536) (hm : n = i + m) (ha : acc = gsum (fun i => if (qOf (os i)).1.2.2.2.2.1 = 0 then 0 else 1) i) (hp : post (some (.int (nI (gsum (fun i => if (qOf (os i)).1.2.2.2.2.1 = 0 then 0 else 1) n)))) h) : gV G z0 X cells slots h 4 [(2, .int (nI i)), (1, .int (nI acc)), (0, .ref b)] [] := by
  induction m generalizing i acc with
  | zero =>
    obtain ⟨hb, f, hva, hf⟩ := id hB
    have hin : i = n := by omega
    subst hin
    subst ha
    refine v_iload_n (pc' := 5) F dX0_turning_4 rfl (j := 0) rfl rfl ?_
    refine v_aload_n (pc' := 6) F dX0_turning_5 rfl (j := 2) rfl rfl ?_
    refine v_getf (pc' := 9) (v := .int (nI i)) F k_X0_turning_0 hb 1 (by decide) m_X0_turning_f17 rfl dX0_turning_6 rfl ?_
    refine w_icmp_ge (tgt := 36) (pc' := 12) F (by omega) (by omega) dX0_turning_9 (by decide) rfl (fun _ => ?_) (fun c0 => absurd c0 (by omega))
    refine v_iload_n (pc' := 37) F dX0_turning_36 rfl (j := 1) rfl rfl ?_
    exact v_iret F E (by omega) (by omega)  dX0_turning_37 hp
  | succ m ih =>
    obtain ⟨hb, f, hva, hf⟩ := id hB
    have hO1 := hO i (by omega)
    have hq4 := qOf_le hO1.1
    have hqf := qOf_fl hO1.1
    have hqs := qOf_small hO1.1
    have hac := hA i (by omega)
    obtain ⟨ti, ai, bi, hvi, hfai, hfbi, hTi, x3i, x4i, x5i, x6i, hti⟩ := (hVs i (by omega)).obj
    refine v_iload_n (pc' := 5) F dX0_turning_4 rfl (j := 0) rfl rfl ?_
    refine v_aload_n (pc' := 6) F dX0_turning_5 rfl (j := 2) rfl rfl ?_
    refine v_getf (pc' := 9) (v := .int (nI n)) F k_X0_turning_0 hb 1 (by decide) m_X0_turning_f17 rfl dX0_turning_6 rfl ?_
    refine w_icmp_ge (tgt := 36) (pc' := 12) F (by omega) (by omega) dX0_turning_9 (by decide) rfl (fun c0 => absurd c0 (by omega)) (fun _ => ?_)
    refine v_aload_n (pc' := 13) F dX0_turning_12 rfl (j := 2) rfl rfl ?_
    refine v_getf (pc' := 16) (v := .ref va) F k_X0_turning_0 hb 0 (by decide) m_X0_turning_f11 rfl dX0_turning_13 rfl ?_
    refine v_iload_n (pc' := 17) F dX0_turning_16 rfl (j := 0) rfl rfl ?_
    refine w_vald (pc' := 18) (v := some (ad i)) F hva (by omega) (by omega) (hf i (by omega)) dX0_turning_17 rfl ?_
    refine v_getf (pc' := 21) (v := .ref ti) F k_X0_turning_5 hvi 3 (by decide) m_X0_turning_f85 rfl dX0_turning_18 rfl ?_
    refine v_getf (pc' := 24) (v := .int (nI ((qOf (os i)).1.2.2.2.2.1))) F k_X0_turning_4 hti 0 (by decide) m_X0_turning_f89 rfl dX0_turning_21 rfl ?_
    refine w_if_eq (tgt := 30) (pc' := 27) F (by omega) dX0_turning_24 (by decide) rfl (fun c0 => ?_) (fun c0 => ?_)
    · refine v_iinc (pc' := 33) (j := 0) (x := nI i) (v := nI (i + 1)) (L' := [(2, .int (nI (i + 1))), (1, .int (nI acc)), (0, .ref b)]) F dX0_turning_30 rfl (nI_add i 1) (by decide) rfl rfl ?_
      refine v_goto (tgt := 4) F dX0_turning_33 (by decide) ?_
      refine v_sub (L' := [(2, .int (nI (i + 1))), (1, .int (nI acc)), (0, .ref b)]) [0, 1, 2] rfl ?_
      exact ih (i := i + 1) (acc := acc) (by omega) (by rw [gsum_s, if_pos c0, ha]; rfl)
    · refine v_iinc (pc' := 30) (j := 1) (x := nI acc) (v := nI (acc + 1)) (L' := [(1, .int (nI (acc + 1))), (2, .int (nI i)), (0, .ref b)]) F dX0_turning_27 rfl (nI_add acc 1) (by decide) rfl rfl ?_
      refine v_iinc (pc' := 33) (j := 1) (x := nI i) (v := nI (i + 1)) (L' := [(2, .int (nI (i + 1))), (1, .int (nI (acc + 1))), (0, .ref b)]) F dX0_turning_30 rfl (nI_add i 1) (by decide) rfl rfl ?_
      refine v_goto (tgt := 4) F dX0_turning_33 (by decide) ?_
      refine v_sub (L' := [(2, .int (nI (i + 1))), (1, .int (nI (acc + 1))), (0, .ref b)]) [0, 1, 2] rfl ?_
      exact ih (i := i + 1) (acc := acc + 1) (by omega) (by rw [gsum_s, if_neg c0, ha])
set_option maxHeartbeats 4000000 in
set_option maxRecDepth 100000 in
theorem c_X0_turning (G : gG) (z0 : Nat) (l : Launch) {h : gH} {b va n pc dr : Nat} {ad : Nat → Nat} {pa : Nat → Option Nat} {os : Nat → List mO} (hn : n ≤ 64) (hB : isBk G h b va n pc dr ad) (hVs : ∀ i, i < n → isVx h (ad i) (pa i) (os i)) (hO : ∀ i, i < n → wOk (os i) ∧ (os i).length < 64) : gC G z0 l yX0_turning wsX0_turning 0 0 [.ref b] h (fun o h' => o = some (.int (nI (gsum (fun i => if (qOf (os i)).1.2.2.2.2.1 = 0 then 0 else 1) n))) ∧ h' = h) 0 0 := by
  refine gC_of (cc := cX0_turning) (nL := 3) (ret := (some .int)) (by decide) rfl (Nat.le_of_ble_eq_true rfl) ?_
  intro X F E _
  change gF G z0 X cX0_turning 3 RX0 wsX0_turning (some .int) "turning" 0 0 _ _ at F
  show gV G z0 X 0 0 h 0 [(0, .ref b)] []
  refine v_iconst (pc' := 1) (v := nI 0) F dX0_turning_0 (by decide) rfl ?_
  refine v_istore_n (pc' := 2) (i := 1) (L' := [(1, .int (nI 0)), (0, .ref b)]) F dX0_turning_1 rfl (by decide) rfl rfl ?_
  refine v_iconst (pc' := 3) (v := nI 0) F dX0_turning_2 (by decide) rfl ?_
  refine v_istore_n (pc' := 4) (i := 2) (L' := [(2, .int (nI 0)), (1, .int (nI 0)), (0, .ref b)]) F dX0_turning_3 rfl (by decide) rfl rfl ?_
  refine v_sub (L' := [(2, .int (nI 0)), (1, .int (nI 0)), (0, .ref b)]) [0, 1, 2] rfl ?_
  exact lp_X0_turning (i := 0) (m := n) F E (Nat.le_refl _) (Nat.le_refl _) hn hB hVs hO (fun j hj => by have := gsum_le (f := (fun i => if (qOf (os i)).1.2.2.2.2.1 = 0 then 0 else 1)) (c := 1) (n := j) (fun i hi => by split <;> omega); omega) (by omega) rfl ⟨rfl, rfl⟩
theorem k_X0_withoutValues_0 : gCl wsX0_withoutValues 0 RX0 TX0 4 := ⟨by decide +kernel, rfl⟩
theorem m_X0_withoutValues_f17 : Cond.fieldLink RX0 17 "SteadyQueues$Book" "count" "I" ∈ wsX0_withoutValues := by decide +kernel
theorem m_X0_withoutValues_f11 : Cond.fieldLink RX0 11 "SteadyQueues$Book" "versions" "[LSteadyQueues$Version;" ∈ wsX0_withoutValues := by decide +kernel
theorem hv_X5_length : yX5_length.cls = RX5 ∧ yX5_length.cls ≠ "java/lang/invoke/MethodHandle" ∧ yX5_length.cls ≠ "java/lang/invoke/VarHandle" ∧ (parseMethodDescriptor yX5_length.desc).map (fun d => d.parameters.length) = some 0 := by decide +kernel
set_option maxHeartbeats 4000000 in
set_option maxRecDepth 100000 in
theorem lp_X0_withoutValues {G : gG} {z0 : Nat} {X : gX} {post : Option Value → gH → Prop} {mc ms cells slots m i acc : Nat} {h : gH} {b va n pc dr : Nat} {ad : Nat → Nat} {pa : Nat → Option Nat} {os : Nat → List mO}  (F : gF G z0 X cX0_withoutValues 3 RX0 wsX0_withoutValues (some .int) "withoutValues" 1 20 mc ms) (E : gE G z0 X post mc ms) (hcc : cells ≤ mc) (hss : slots ≤ ms) (hn : n ≤ 64) (hB : isBk G h b va n pc dr ad) (hVs : ∀ i, i < n → isVx h (ad i) (pa i) (os i)) (hO : ∀ i, i < n → wOk (os i) ∧ (os i).length < 64) (hA : ∀ j, j ≤ n → gsum (fun i => if (qOf (os i)).1.2.2.1 + (qOf (os i)).1.2.2.2.1 = 0 then 1 else 0) j < 65536) (hm : n = i + m) (ha : acc = gsum (fun i => if (qOf (os i)).1.2.2.1 + (qOf (os i)).1.2.2.2.1 = 0 then 1 else 0) i) (hp : post (some (.int (nI (gsum (fun i => if (qOf (os i)).1.2.2.1 + (qOf (os i)).1.2.2.2.1 = 0 then 1 else 0) n)))) h) : gV G z0 X cells slots h 4 [(2, .int (nI i)), (1, .int (nI acc)), (0, .ref b)] [] := by
  induction m generalizing i acc with
  | zero =>
    obtain ⟨hb, f, hva, hf⟩ := id hB
    have hin : i = n := by omega
    subst hin
    subst ha
    refine v_iload_n (pc' := 5) F dX0_withoutValues_4 rfl (j := 0) rfl rfl ?_
    refine v_aload_n (pc' := 6) F dX0_withoutValues_5 rfl (j := 2) rfl rfl ?_
    refine v_getf (pc' := 9) (v := .int (nI i)) F k_X0_withoutValues_0 hb 1 (by decide) m_X0_withoutValues_f17 rfl dX0_withoutValues_6 rfl ?_
    refine w_icmp_ge (tgt := 33) (pc' := 12) F (by omega) (by omega) dX0_withoutValues_9 (by decide) rfl (fun _ => ?_) (fun c0 => absurd c0 (by omega))
    refine v_iload_n (pc' := 34) F dX0_withoutValues_33 rfl (j := 1) rfl rfl ?_
    exact v_iret F E (by omega) (by omega)  dX0_withoutValues_34 hp
  | succ m ih =>
    obtain ⟨hb, f, hva, hf⟩ := id hB
    have hO1 := hO i (by omega)
    have hq4 := qOf_le hO1.1
    have hqf := qOf_fl hO1.1
    have hqs := qOf_small hO1.1
    have hac := hA i (by omega)
    obtain ⟨ti, ai, bi, hvi, hfai, hfbi, hTi, x3i, x4i, x5i, x6i, hti⟩ := (hVs i (by omega)).obj
    refine v_iload_n (pc' := 5) F dX0_withoutValues_4 rfl (j := 0) rfl rfl ?_
    refine v_aload_n (pc' := 6) F dX0_withoutValues_5 rfl (j := 2) rfl rfl ?_
    refine v_getf (pc' := 9) (v := .int (nI n)) F k_X0_withoutValues_0 hb 1 (by decide) m_X0_withoutValues_f17 rfl dX0_withoutValues_6 rfl ?_
    refine w_icmp_ge (tgt := 33) (pc' := 12) F (by omega) (by omega) dX0_withoutValues_9 (by decide) rfl (fun c0 => absurd c0 (by omega)) (fun _ => ?_)
    refine v_aload_n (pc' := 13) F dX0_withoutValues_12 rfl (j := 2) rfl rfl ?_
    refine v_getf (pc' := 16) (v := .ref va) F k_X0_withoutValues_0 hb 0 (by decide) m_X0_withoutValues_f11 rfl dX0_withoutValues_13 rfl ?_
    refine v_iload_n (pc' := 17) F dX0_withoutValues_16 rfl (j := 0) rfl rfl ?_
    refine w_vald (pc' := 18) (v := some (ad i)) F hva (by omega) (by omega) (hf i (by omega)) dX0_withoutValues_17 rfl ?_
    refine v_callV (pc' := 21) (rt := (some .int)) (mcc := 0) (msc := 0) (As := []) (st := []) F (fun l => c_X5_length G z0 l (hVs i (by omega)).choose_spec) gX0_withoutValues_X5_length rfl hv_X5_length (by decide) (by decide) hvi rfl rfl rfl (Nat.le_of_ble_eq_true rfl) (by omega) (by omega) dX0_withoutValues_18 rfl (fun v1 h hq => ?_)
    obtain ⟨rfl, rfl⟩ := hq
    refine w_if_ne (tgt := 27) (pc' := 24) F (by omega) dX0_withoutValues_21 (by decide) rfl (fun c0 => ?_) (fun c0 => ?_)
    · refine v_iinc (pc' := 30) (j := 0) (x := nI i) (v := nI (i + 1)) (L' := [(2, .int (nI (i + 1))), (1, .int (nI acc)), (0, .ref b)]) F dX0_withoutValues_27 rfl (nI_add i 1) (by decide) rfl rfl ?_
      refine v_goto (tgt := 4) F dX0_withoutValues_30 (by decide) ?_
      refine v_sub (L' := [(2, .int (nI (i + 1))), (1, .int (nI acc)), (0, .ref b)]) [0, 1, 2] rfl ?_
      exact ih (i := i + 1) (acc := acc) (by omega) (by rw [gsum_s, if_neg c0, ha]; rfl)
    · refine v_iinc (pc' := 27) (j := 1) (x := nI acc) (v := nI (acc + 1)) (L' := [(1, .int (nI (acc + 1))), (2, .int (nI i)), (0, .ref b)]) F dX0_withoutValues_24 rfl (nI_add acc 1) (by decide) rfl rfl ?_
      refine v_iinc (pc' := 30) (j := 1) (x := nI i) (v := nI (i + 1)) (L' := [(2, .int (nI (i + 1))), (1, .int (nI (acc + 1))), (0, .ref b)]) F dX0_withoutValues_27 rfl (nI_add i 1) (by decide) rfl rfl ?_
      refine v_goto (tgt := 4) F dX0_withoutValues_30 (by decide) ?_
      refine v_sub (L' := [(2, .int (nI (i + 1))), (1, .int (nI (acc + 1))), (0, .ref b)]) [0, 1, 2] rfl ?_
      exact ih (i := i + 1) (acc := acc + 1) (by omega) (by rw [gsum_s, if_pos c0, ha])
set_option maxHeartbeats 4000000 in
set_option maxRecDepth 100000 in
theorem c_X0_withoutValues (G : gG) (z0 : Nat) (l : Launch) {h : gH} {b va n pc dr : Nat} {ad : Nat → Nat} {pa : Nat → Option Nat} {os : Nat → List mO} (hn : n ≤ 64) (hB : isBk G h b va n pc dr ad) (hVs : ∀ i, i < n → isVx h (ad i) (pa i) (os i)) (hO : ∀ i, i < n → wOk (os i) ∧ (os i).length < 64) : gC G z0 l yX0_withoutValues wsX0_withoutValues 1 20 [.ref b] h (fun o h' => o = some (.int (nI (gsum (fun i => if (qOf (os i)).1.2.2.1 + (qOf (os i)).1.2.2.2.1 = 0 then 1 else 0) n))) ∧ h' = h) 0 0 := by
  refine gC_of (cc := cX0_withoutValues) (nL := 3) (ret := (some .int)) (by decide) rfl (Nat.le_of_ble_eq_true rfl) ?_
  intro X F E _
  change gF G z0 X cX0_withoutValues 3 RX0 wsX0_withoutValues (some .int) "withoutValues" 1 20 _ _ at F
  show gV G z0 X 0 0 h 0 [(0, .ref b)] []
  refine v_iconst (pc' := 1) (v := nI 0) F dX0_withoutValues_0 (by decide) rfl ?_
  refine v_istore_n (pc' := 2) (i := 1) (L' := [(1, .int (nI 0)), (0, .ref b)]) F dX0_withoutValues_1 rfl (by decide) rfl rfl ?_
  refine v_iconst (pc' := 3) (v := nI 0) F dX0_withoutValues_2 (by decide) rfl ?_
  refine v_istore_n (pc' := 4) (i := 2) (L' := [(2, .int (nI 0)), (1, .int (nI 0)), (0, .ref b)]) F dX0_withoutValues_3 rfl (by decide) rfl rfl ?_
  refine v_sub (L' := [(2, .int (nI 0)), (1, .int (nI 0)), (0, .ref b)]) [0, 1, 2] rfl ?_
  exact lp_X0_withoutValues (i := 0) (m := n) F E (Nat.le_refl _) (Nat.le_refl _) hn hB hVs hO (fun j hj => by have := gsum_le (f := (fun i => if (qOf (os i)).1.2.2.1 + (qOf (os i)).1.2.2.2.1 = 0 then 1 else 0)) (c := 1) (n := j) (fun i hi => by split <;> omega); omega) (by omega) rfl ⟨rfl, rfl⟩
theorem k_X0_childrenOf_0 : gCl wsX0_childrenOf 0 RX0 TX0 4 := ⟨by decide +kernel, rfl⟩
theorem m_X0_childrenOf_f17 : Cond.fieldLink RX0 17 "SteadyQueues$Book" "count" "I" ∈ wsX0_childrenOf := by decide +kernel
theorem m_X0_childrenOf_f11 : Cond.fieldLink RX0 11 "SteadyQueues$Book" "versions" "[LSteadyQueues$Version;" ∈ wsX0_childrenOf := by decide +kernel
theorem k_X0_childrenOf_5 : gCl wsX0_childrenOf 5 RX5 TX5 9 := ⟨by decide +kernel, rfl⟩
theorem m_X0_childrenOf_f44 : Cond.fieldLink RX0 44 "SteadyQueues$Version" "parent" "LSteadyQueues$Version;" ∈ wsX0_childrenOf := by decide +kernel
set_option maxHeartbeats 4000000 in
set_option maxRecDepth 100000 in
theorem lp_X0_childrenOf {G : gG} {z0 : Nat} {X : gX} {post : Option Value → gH → Prop} {mc ms cells slots m i acc : Nat} {h : gH} {b va n pc dr : Nat} {ad : Nat → Nat} {pa : Nat → Option Nat} {os : Nat → List mO} {r : Option Nat} (F : gF G z0 X cX0_childrenOf 4 RX0 wsX0_childrenOf (some .int) "childrenOf" 0 0 mc ms) (E : gE G z0 X post mc ms) (hcc : cells ≤ mc) (hss : slots ≤ ms) (hn : n ≤ 64) (hB : isBk G h b va n pc dr ad) (hVs : ∀ i, i < n → isVx h (ad i) (pa i) (os i)) (hO : ∀ i, i < n → wOk (os i) ∧ (os i).length < 64) (hA : ∀ j, j ≤ n → gsum (fun i => if pa i = r then 1 else 0) j < 65536) (hm : n = i + m) (ha : acc = gsum (fun i => if pa i = r then 1 else 0) i) (hp : post (some (.int (nI (gsum (fun i => if pa i = r then 1 else 0) n)))) h) : gV G z0 X cells slots h 4 [(3, .int (nI i)), (2, .int (nI acc)), (1, va_rf r), (0, .ref b)] [] := by
  induction m generalizing i acc with
  | zero =>
    obtain ⟨hb, f, hva, hf⟩ := id hB
    have hin : i = n := by omega
    subst hin
    subst ha
    refine v_iload_n (pc' := 5) F dX0_childrenOf_4 rfl (j := 0) rfl rfl ?_
    refine v_aload_n (pc' := 6) F dX0_childrenOf_5 rfl (j := 3) rfl rfl ?_
    refine v_getf (pc' := 9) (v := .int (nI i)) F k_X0_childrenOf_0 hb 1 (by decide) m_X0_childrenOf_f17 rfl dX0_childrenOf_6 rfl ?_
    refine w_icmp_ge (tgt := 34) (pc' := 12) F (by omega) (by omega) dX0_childrenOf_9 (by decide) rfl (fun _ => ?_) (fun c0 => absurd c0 (by omega))
    refine v_iload_n (pc' := 35) F dX0_childrenOf_34 rfl (j := 1) rfl rfl ?_
    exact v_iret F E (by omega) (by omega)  dX0_childrenOf_35 hp
  | succ m ih =>
    obtain ⟨hb, f, hva, hf⟩ := id hB
    have hO1 := hO i (by omega)
    have hq4 := qOf_le hO1.1
    have hqf := qOf_fl hO1.1
    have hqs := qOf_small hO1.1
    have hac := hA i (by omega)
    obtain ⟨ti, ai, bi, hvi, hfai, hfbi, hTi, x3i, x4i, x5i, x6i, hti⟩ := (hVs i (by omega)).obj
    refine v_iload_n (pc' := 5) F dX0_childrenOf_4 rfl (j := 0) rfl rfl ?_
    refine v_aload_n (pc' := 6) F dX0_childrenOf_5 rfl (j := 3) rfl rfl ?_
    refine v_getf (pc' := 9) (v := .int (nI n)) F k_X0_childrenOf_0 hb 1 (by decide) m_X0_childrenOf_f17 rfl dX0_childrenOf_6 rfl ?_
    refine w_icmp_ge (tgt := 34) (pc' := 12) F (by omega) (by omega) dX0_childrenOf_9 (by decide) rfl (fun c0 => absurd c0 (by omega)) (fun _ => ?_)
    refine v_aload_n (pc' := 13) F dX0_childrenOf_12 rfl (j := 3) rfl rfl ?_
    refine v_getf (pc' := 16) (v := .ref va) F k_X0_childrenOf_0 hb 0 (by decide) m_X0_childrenOf_f11 rfl dX0_childrenOf_13 rfl ?_
    refine v_iload_n (pc' := 17) F dX0_childrenOf_16 rfl (j := 0) rfl rfl ?_
    refine w_vald (pc' := 18) (v := some (ad i)) F hva (by omega) (by omega) (hf i (by omega)) dX0_childrenOf_17 rfl ?_
    refine v_getf (pc' := 21) (v := va_rf (pa i)) F k_X0_childrenOf_5 hvi 0 (by decide) m_X0_childrenOf_f44 rfl dX0_childrenOf_18 rfl ?_
    refine v_aloadq_n (pc' := 22) F dX0_childrenOf_21 rfl (j := 2) rfl rfl ?_
    refine v_acmp_ne (tgt := 28) (pc' := 25) (rx := pa i) (ry := r) F dX0_childrenOf_22 (by decide) rfl (fun c0 => ?_) (fun c0 => ?_)
    · refine v_iinc (pc' := 31) (j := 0) (x := nI i) (v := nI (i + 1)) (L' := [(3, .int (nI (i + 1))), (2, .int (nI acc)), (1, va_rf r), (0, .ref b)]) F dX0_childrenOf_28 rfl (nI_add i 1) (by decide) rfl rfl ?_
      refine v_goto (tgt := 4) F dX0_childrenOf_31 (by decide) ?_
      refine v_sub (L' := [(3, .int (nI (i + 1))), (2, .int (nI acc)), (1, va_rf r), (0, .ref b)]) [0, 1, 2, 3] rfl ?_
      exact ih (i := i + 1) (acc := acc) (by omega) (by rw [gsum_s, if_neg (fun z => c0 z), ha]; rfl)
    · refine v_iinc (pc' := 28) (j := 1) (x := nI acc) (v := nI (acc + 1)) (L' := [(2, .int (nI (acc + 1))), (3, .int (nI i)), (1, va_rf r), (0, .ref b)]) F dX0_childrenOf_25 rfl (nI_add acc 1) (by decide) (by simp [gcat, gci, gcr, gcn, gcl, gvs, gvn]) rfl ?_
      refine v_iinc (pc' := 31) (j := 1) (x := nI i) (v := nI (i + 1)) (L' := [(3, .int (nI (i + 1))), (2, .int (nI (acc + 1))), (1, va_rf r), (0, .ref b)]) F dX0_childrenOf_28 rfl (nI_add i 1) (by decide) rfl rfl ?_
      refine v_goto (tgt := 4) F dX0_childrenOf_31 (by decide) ?_
      refine v_sub (L' := [(3, .int (nI (i + 1))), (2, .int (nI (acc + 1))), (1, va_rf r), (0, .ref b)]) [0, 1, 2, 3] rfl ?_
      exact ih (i := i + 1) (acc := acc + 1) (by omega) (by rw [gsum_s, if_pos c0, ha])
set_option maxHeartbeats 4000000 in
set_option maxRecDepth 100000 in
theorem c_X0_childrenOf (G : gG) (z0 : Nat) (l : Launch) {h : gH} {b va n pc dr : Nat} {ad : Nat → Nat} {pa : Nat → Option Nat} {os : Nat → List mO} {r : Option Nat} (hn : n ≤ 64) (hB : isBk G h b va n pc dr ad) (hVs : ∀ i, i < n → isVx h (ad i) (pa i) (os i)) (hO : ∀ i, i < n → wOk (os i) ∧ (os i).length < 64) : gC G z0 l yX0_childrenOf wsX0_childrenOf 0 0 [.ref b, va_rf r] h (fun o h' => o = some (.int (nI (gsum (fun i => if pa i = r then 1 else 0) n))) ∧ h' = h) 0 0 := by
  refine gC_of (cc := cX0_childrenOf) (nL := 4) (ret := (some .int)) (by decide) rfl (by simp [lg_sl, gcat, gci, gcr, gcn, gcl, gvs, gvn]) ?_
  intro X F E _
  rw [show lv_args 0 [.ref b, va_rf r] = [(0, .ref b), (1, va_rf r)] from by simp [lv_args, gcat, gci, gcr, gcn, gcl, gvs, gvn]]
  change gF G z0 X cX0_childrenOf 4 RX0 wsX0_childrenOf (some .int) "childrenOf" 0 0 _ _ at F
  show gV G z0 X 0 0 h 0 [(0, .ref b), (1, va_rf r)] []
  refine v_iconst (pc' := 1) (v := nI 0) F dX0_childrenOf_0 (by decide) rfl ?_
  refine v_istore_n (pc' := 2) (i := 2) (L' := [(2, .int (nI 0)), (0, .ref b), (1, va_rf r)]) F dX0_childrenOf_1 rfl (by decide) (by simp [gcat, gci, gcr, gcn, gcl, gvs, gvn]) rfl ?_
  refine v_iconst (pc' := 3) (v := nI 0) F dX0_childrenOf_2 (by decide) rfl ?_
  refine v_istore_n (pc' := 4) (i := 3) (L' := [(3, .int (nI 0)), (2, .int (nI 0)), (0, .ref b), (1, va_rf r)]) F dX0_childrenOf_3 rfl (by decide) rfl rfl ?_
  refine v_sub (L' := [(3, .int (nI 0)), (2, .int (nI 0)), (1, va_rf r), (0, .ref b)]) [0, 1, 3, 2] rfl ?_
  exact lp_X0_childrenOf (i := 0) (m := n) F E (Nat.le_refl _) (Nat.le_refl _) hn hB hVs hO (fun j hj => by have := gsum_le (f := (fun i => if pa i = r then 1 else 0)) (c := 1) (n := j) (fun i hi => by split <;> omega); omega) (by omega) rfl ⟨rfl, rfl⟩
theorem k_X0_withoutChildren_0 : gCl wsX0_withoutChildren 0 RX0 TX0 4 := ⟨by decide +kernel, rfl⟩
theorem m_X0_withoutChildren_f17 : Cond.fieldLink RX0 17 "SteadyQueues$Book" "count" "I" ∈ wsX0_withoutChildren := by decide +kernel
theorem m_X0_withoutChildren_f11 : Cond.fieldLink RX0 11 "SteadyQueues$Book" "versions" "[LSteadyQueues$Version;" ∈ wsX0_withoutChildren := by decide +kernel
theorem hv_X0_childrenOf : yX0_childrenOf.cls = RX0 ∧ yX0_childrenOf.cls ≠ "java/lang/invoke/MethodHandle" ∧ yX0_childrenOf.cls ≠ "java/lang/invoke/VarHandle" ∧ (parseMethodDescriptor yX0_childrenOf.desc).map (fun d => d.parameters.length) = some 1 := by decide +kernel
set_option maxHeartbeats 4000000 in
set_option maxRecDepth 100000 in
theorem lp_X0_withoutChildren {G : gG} {z0 : Nat} {X : gX} {post : Option Value → gH → Prop} {mc ms cells slots m i acc : Nat} {h : gH} {b va n pc dr : Nat} {ad : Nat → Nat} {pa : Nat → Option Nat} {os : Nat → List mO}  (F : gF G z0 X cX0_withoutChildren 3 RX0 wsX0_withoutChildren (some .int) "withoutChildren" 1 23 mc ms) (E : gE G z0 X post mc ms) (hcc : cells ≤ mc) (hss : slots ≤ ms) (hn : n ≤ 64) (hB : isBk G h b va n pc dr ad) (hVs : ∀ i, i < n → isVx h (ad i) (pa i) (os i)) (hO : ∀ i, i < n → wOk (os i) ∧ (os i).length < 64) (hA : ∀ j, j ≤ n → gsum (fun i => if gsum (fun j => if pa j = some (ad i) then 1 else 0) n = 0 then 1 else 0) j < 65536) (hm : n = i + m) (ha : acc = gsum (fun i => if gsum (fun j => if pa j = some (ad i) then 1 else 0) n = 0 then 1 else 0) i) (hp : post (some (.int (nI (gsum (fun i => if gsum (fun j => if pa j = some (ad i) then 1 else 0) n = 0 then 1 else 0) n)))) h) : gV G z0 X cells slots h 4 [(2, .int (nI i)), (1, .int (nI acc)), (0, .ref b)] [] := by
  induction m generalizing i acc with
  | zero =>
    obtain ⟨hb, f, hva, hf⟩ := id hB
    have hin : i = n := by omega
    subst hin
    subst ha
    refine v_iload_n (pc' := 5) F dX0_withoutChildren_4 rfl (j := 0) rfl rfl ?_
    refine v_aload_n (pc' := 6) F dX0_withoutChildren_5 rfl (j := 2) rfl rfl ?_
    refine v_getf (pc' := 9) (v := .int (nI i)) F k_X0_withoutChildren_0 hb 1 (by decide) m_X0_withoutChildren_f17 rfl dX0_withoutChildren_6 rfl ?_
    refine w_icmp_ge (tgt := 34) (pc' := 12) F (by omega) (by omega) dX0_withoutChildren_9 (by decide) rfl (fun _ => ?_) (fun c0 => absurd c0 (by omega))
    refine v_iload_n (pc' := 35) F dX0_withoutChildren_34 rfl (j := 1) rfl rfl ?_
    exact v_iret F E (by omega) (by omega)  dX0_withoutChildren_35 hp
  | succ m ih =>
    obtain ⟨hb, f, hva, hf⟩ := id hB
    have hO1 := hO i (by omega)
    have hq4 := qOf_le hO1.1
    have hqf := qOf_fl hO1.1
    have hqs := qOf_small hO1.1
    have hac := hA i (by omega)
    obtain ⟨ti, ai, bi, hvi, hfai, hfbi, hTi, x3i, x4i, x5i, x6i, hti⟩ := (hVs i (by omega)).obj
    refine v_iload_n (pc' := 5) F dX0_withoutChildren_4 rfl (j := 0) rfl rfl ?_
    refine v_aload_n (pc' := 6) F dX0_withoutChildren_5 rfl (j := 2) rfl rfl ?_
    refine v_getf (pc' := 9) (v := .int (nI n)) F k_X0_withoutChildren_0 hb 1 (by decide) m_X0_withoutChildren_f17 rfl dX0_withoutChildren_6 rfl ?_
    refine w_icmp_ge (tgt := 34) (pc' := 12) F (by omega) (by omega) dX0_withoutChildren_9 (by decide) rfl (fun c0 => absurd c0 (by omega)) (fun _ => ?_)
    refine v_aload_n (pc' := 13) F dX0_withoutChildren_12 rfl (j := 2) rfl rfl ?_
    refine v_aload_n (pc' := 14) F dX0_withoutChildren_13 rfl (j := 2) rfl rfl ?_
    refine v_getf (pc' := 17) (v := .ref va) F k_X0_withoutChildren_0 hb 0 (by decide) m_X0_withoutChildren_f11 rfl dX0_withoutChildren_14 rfl ?_
    refine v_iload_n (pc' := 18) F dX0_withoutChildren_17 rfl (j := 0) rfl rfl ?_
    refine w_vald (pc' := 19) (v := some (ad i)) F hva (by omega) (by omega) (hf i (by omega)) dX0_withoutChildren_18 rfl ?_
    refine v_callV (pc' := 22) (rt := (some .int)) (mcc := 0) (msc := 0) (As := [.ref (ad i)]) (st := []) F (fun l => c_X0_childrenOf G z0 l (r := some (ad i)) hn hB hVs hO) gX0_withoutChildren_X0_childrenOf rfl hv_X0_childrenOf (by decide) (by decide) hb rfl rfl rfl (Nat.le_of_ble_eq_true rfl) (by omega) (by omega) dX0_withoutChildren_19 rfl (fun v1 h hq => ?_)
    obtain ⟨rfl, rfl⟩ := hq
    have hgs := gsum_le (f := fun j => if pa j = some (ad i) then 1 else 0) (c := 1) (n := n) (fun i hi => by split <;> omega)
    refine w_if_ne (tgt := 28) (pc' := 25) F (by omega) dX0_withoutChildren_22 (by decide) rfl (fun c0 => ?_) (fun c0 => ?_)
    · refine v_iinc (pc' := 31) (j := 0) (x := nI i) (v := nI (i + 1)) (L' := [(2, .int (nI (i + 1))), (1, .int (nI acc)), (0, .ref b)]) F dX0_withoutChildren_28 rfl (nI_add i 1) (by decide) rfl rfl ?_
      refine v_goto (tgt := 4) F dX0_withoutChildren_31 (by decide) ?_
      refine v_sub (L' := [(2, .int (nI (i + 1))), (1, .int (nI acc)), (0, .ref b)]) [0, 1, 2] rfl ?_
      exact ih (i := i + 1) (acc := acc) (by omega) (by rw [gsum_s, if_neg c0, ha]; rfl)
    · refine v_iinc (pc' := 28) (j := 1) (x := nI acc) (v := nI (acc + 1)) (L' := [(1, .int (nI (acc + 1))), (2, .int (nI i)), (0, .ref b)]) F dX0_withoutChildren_25 rfl (nI_add acc 1) (by decide) rfl rfl ?_
      refine v_iinc (pc' := 31) (j := 1) (x := nI i) (v := nI (i + 1)) (L' := [(2, .int (nI (i + 1))), (1, .int (nI (acc + 1))), (0, .ref b)]) F dX0_withoutChildren_28 rfl (nI_add i 1) (by decide) rfl rfl ?_
      refine v_goto (tgt := 4) F dX0_withoutChildren_31 (by decide) ?_
      refine v_sub (L' := [(2, .int (nI (i + 1))), (1, .int (nI (acc + 1))), (0, .ref b)]) [0, 1, 2] rfl ?_
      exact ih (i := i + 1) (acc := acc + 1) (by omega) (by rw [gsum_s, if_pos c0, ha])
set_option maxHeartbeats 4000000 in
set_option maxRecDepth 100000 in
theorem c_X0_withoutChildren (G : gG) (z0 : Nat) (l : Launch) {h : gH} {b va n pc dr : Nat} {ad : Nat → Nat} {pa : Nat → Option Nat} {os : Nat → List mO} (hn : n ≤ 64) (hB : isBk G h b va n pc dr ad) (hVs : ∀ i, i < n → isVx h (ad i) (pa i) (os i)) (hO : ∀ i, i < n → wOk (os i) ∧ (os i).length < 64) : gC G z0 l yX0_withoutChildren wsX0_withoutChildren 1 23 [.ref b] h (fun o h' => o = some (.int (nI (gsum (fun i => if gsum (fun j => if pa j = some (ad i) then 1 else 0) n = 0 then 1 else 0) n))) ∧ h' = h) 0 0 := by
  refine gC_of (cc := cX0_withoutChildren) (nL := 3) (ret := (some .int)) (by decide) rfl (Nat.le_of_ble_eq_true rfl) ?_
  intro X F E _
  change gF G z0 X cX0_withoutChildren 3 RX0 wsX0_withoutChildren (some .int) "withoutChildren" 1 23 _ _ at F
  show gV G z0 X 0 0 h 0 [(0, .ref b)] []
  refine v_iconst (pc' := 1) (v := nI 0) F dX0_withoutChildren_0 (by decide) rfl ?_
  refine v_istore_n (pc' := 2) (i := 1) (L' := [(1, .int (nI 0)), (0, .ref b)]) F dX0_withoutChildren_1 rfl (by decide) rfl rfl ?_
  refine v_iconst (pc' := 3) (v := nI 0) F dX0_withoutChildren_2 (by decide) rfl ?_
  refine v_istore_n (pc' := 4) (i := 2) (L' := [(2, .int (nI 0)), (1, .int (nI 0)), (0, .ref b)]) F dX0_withoutChildren_3 rfl (by decide) rfl rfl ?_
  refine v_sub (L' := [(2, .int (nI 0)), (1, .int (nI 0)), (0, .ref b)]) [0, 1, 2] rfl ?_
  exact lp_X0_withoutChildren (i := 0) (m := n) F E (Nat.le_refl _) (Nat.le_refl _) hn hB hVs hO (fun j hj => by have := gsum_le (f := (fun i => if gsum (fun j => if pa j = some (ad i) then 1 else 0) n = 0 then 1 else 0)) (c := 1) (n := j) (fun i hi => by split <;> omega); omega) (by omega) rfl ⟨rfl, rfl⟩

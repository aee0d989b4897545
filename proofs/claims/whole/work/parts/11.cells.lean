/-! LISTS OF CELLS -/
def isL (h : gH) : List Int32 → Option Nat → Prop
  | [], r => r = none
  | x :: xs, r => ∃ (a : Nat) (nx : Option Nat), r = some a ∧ h a = some (.inr (1, [.int x, va_rf nx])) ∧ isL h xs nx
/-- cells stay -/
def gpl (h h' : gH) : Prop := ∀ (a : Nat) (fs : List Value), h a = some (.inr (1, fs)) → h' a = some (.inr (1, fs))
theorem gpl.rf {h : gH} : gpl h h := fun _ _ q => q
theorem gpl.tr {h h1 h2 : gH} (a : gpl h h1) (b : gpl h1 h2) : gpl h h2 := fun x fs q => b x fs (a x fs q)
theorem gfr.pl {S : List Nat} {h h' : gH} (f : gfr S h h') (hS : ∀ a, a ∈ S → ∀ fs, h a ≠ some (.inr (1, fs))) : gpl h h' := fun a fs q => f a _ (fun m => hS a m fs q) q
theorem isL.keep {h h' : gH} (f : gpl h h') : ∀ {xs : List Int32} {r : Option Nat}, isL h xs r → isL h' xs r
  | [], _, q => q
  | _ :: _, _, ⟨a, nx, h1, h2, h3⟩ => ⟨a, nx, h1, f a _ h2, isL.keep f h3⟩
theorem isL.tail {h : gH} {xs : List Int32} {a : Nat} (q : isL h xs (some a)) : ∃ (x : Int32) (nx : Option Nat), h a = some (.inr (1, [.int x, va_rf nx])) ∧ isL h xs.tail nx ∧ xs = x :: xs.tail := by
  cases xs with
  | nil => cases q
  | cons x xs =>
    obtain ⟨b, nx, h1, h2, h3⟩ := q
    cases h1
    exact ⟨x, nx, h2, h3, rfl⟩
/-- a row holds the values from a place on -/
def fHas (f : Nat → Int32) (p : Nat) (ys : List Int32) : Prop := ∀ j, j < ys.length → f (p + j) = ys.getD j 0
theorem gd_l {a b : List Int32} {j : Nat} (h : j < a.length) : (a ++ b).getD j 0 = a.getD j 0 := by rw [List.getD_eq_getElem?_getD, List.getD_eq_getElem?_getD, List.getElem?_append_left h]
theorem gd_r {a b : List Int32} {j : Nat} (h : a.length ≤ j) : (a ++ b).getD j 0 = b.getD (j - a.length) 0 := by rw [List.getD_eq_getElem?_getD, List.getD_eq_getElem?_getD, List.getElem?_append_right h]
theorem upd_eq (f : Nat → Int32) (k : Nat) (x : Int32) : upd f k x k = x := pk_us
theorem upd_ne {f : Nat → Int32} {k j : Nat} {x : Int32} (h : j ≠ k) : upd f k x j = f j := pk_un h
theorem m_X1_init_ml3 : Cond.methodLink RX1 3 objectInit ∈ wsX1_init := by decide +kernel
theorem m_X1_init_oi : Cond.instanceMethod objectInit ∈ wsX1_init := by decide +kernel
theorem m_X1_init_oc : Cond.code objectInit ⟨#[0xb1]⟩ 1 none ∈ wsX1_init := by decide +kernel
theorem k_X1_init_1 : gCl wsX1_init 1 RX1 TX1 2 := ⟨by decide +kernel, rfl⟩
theorem m_X1_init_f9 : Cond.fieldLink RX1 9 "SteadyQueues$Cell" "value" "I" ∈ wsX1_init := by decide +kernel
theorem m_X1_init_f15 : Cond.fieldLink RX1 15 "SteadyQueues$Cell" "next" "LSteadyQueues$Cell;" ∈ wsX1_init := by decide +kernel
set_option maxHeartbeats 4000000 in
set_option maxRecDepth 100000 in
/-- Cell(value, next) -/
theorem c_X1_init (G : gG) (z0 : Nat) (l : Launch) {h : gH} {a : Nat} (x : Int32) (nx : Option Nat) (ha : h a = some (.inr (1, [.int (nI 0), .null]))) : gC G z0 l yX1_init wsX1_init 1 20 [.ref a, .int x, va_rf nx] h (fun v h' => v = none ∧ h' a = some (.inr (1, [.int x, va_rf nx])) ∧ gfr [a] h h') 0 0 := by
  refine gC_of (cc := cX1_init) (nL := 3) (ret := none) (by decide) rfl (by simp [lg_sl, gcat, gci, gcr, gcn, gcl, gvs, gvn]) ?_
  intro X F E _
  rw [show lv_args 0 [.ref a, .int x, va_rf nx] = [(0, .ref a), (1, .int x), (2, va_rf nx)] from by simp [lv_args, gcat, gci, gcr, gcn, gcl, gvs, gvn]]
  change gF G z0 X cX1_init 3 RX1 wsX1_init none "<init>" 1 20 _ _ at F
  show gV G z0 X 0 0 h 0 [(0, .ref a), (1, .int x), (2, va_rf nx)] []
  refine v_aload_n (pc' := 1) F dX1_init_0 rfl (j := 0) rfl rfl ?_
  refine v_objInit (pc' := 4) F m_X1_init_ml3 m_X1_init_oi m_X1_init_oc (by decide) (Nat.le_of_ble_eq_true rfl) dX1_init_1 rfl ?_
  refine v_aload_n (pc' := 5) F dX1_init_4 rfl (j := 0) rfl rfl ?_
  refine v_iload_n (pc' := 6) F dX1_init_5 rfl (j := 1) rfl rfl ?_
  refine w_putfF (pc' := 9) F k_X1_init_1 tyX1_ok nmX1 ha 0 (by decide) m_X1_init_f9 rfl rfl rfl rfl rfl (show 0 < 2 by decide) [.int x, .null] rfl dX1_init_6 rfl (fun h1 a2 f3 => ?_)
  refine v_aload_n (pc' := 10) F dX1_init_9 rfl (j := 0) rfl rfl ?_
  refine v_aloadq_n (pc' := 11) F dX1_init_10 rfl (j := 2) rfl rfl ?_
  refine w_putfF (pc' := 14) F k_X1_init_1 tyX1_ok nmX1 a2 1 (by decide) m_X1_init_f15 rfl rfl rfl (gnar _ _) (gfit _ _) (show 1 < 2 by decide) [.int x, va_rf nx] rfl dX1_init_11 rfl (fun h4 a5 f6 => ?_)
  have fr7 : gfr [a] h h4 := (gfr.t f3 f6)
  exact v_vret F E (by omega) (by omega)  dX1_init_14 ⟨rfl, a5, fr7⟩
theorem k_X1_behindFirst_1 : gCl wsX1_behindFirst 1 RX1 TX1 2 := ⟨by decide +kernel, rfl⟩
theorem m_X1_behindFirst_f15 : Cond.fieldLink RX1 15 "SteadyQueues$Cell" "next" "LSteadyQueues$Cell;" ∈ wsX1_behindFirst := by decide +kernel
set_option maxHeartbeats 4000000 in
set_option maxRecDepth 100000 in
/-- the list behind the first value -/
theorem c_X1_behindFirst (G : gG) (z0 : Nat) (l : Launch) {h : gH} {xs : List Int32} {r : Option Nat} (hr : isL h xs r) : gC G z0 l yX1_behindFirst wsX1_behindFirst 0 0 [va_rf r] h (fun v h' => ∃ r', v = some (va_rf r') ∧ isL h xs.tail r' ∧ h' = h) 0 0 := by
  cases r with
  | none =>
    refine gC_of (cc := cX1_behindFirst) (nL := 1) (ret := (some (.object "SteadyQueues$Cell"))) (by decide) rfl (Nat.le_of_ble_eq_true rfl) ?_
    intro X F E _
    change gF G z0 X cX1_behindFirst 1 RX1 wsX1_behindFirst (some (.object "SteadyQueues$Cell")) "behindFirst" 0 0 _ _ at F
    show gV G z0 X 0 0 h 0 [(0, .null)] []
    refine v_aload0_n (pc' := 1) F dX1_behindFirst_0 rfl (j := 0) rfl rfl ?_
    refine v_ifnonnullN (pc' := 4) F dX1_behindFirst_1 rfl ?_
    refine v_null (pc' := 5) F dX1_behindFirst_4 rfl ?_
    refine v_goto (tgt := 12) F dX1_behindFirst_5 (by decide) ?_
    exact v_aret (r := none) F E (by omega) (by omega) dX1_behindFirst_12 ⟨_, rfl, by cases xs with | nil => exact rfl | cons x xs => (obtain ⟨_, _, z, _⟩ := hr; cases z), rfl⟩
  | some a =>
    refine gC_of (cc := cX1_behindFirst) (nL := 1) (ret := (some (.object "SteadyQueues$Cell"))) (by decide) rfl (Nat.le_of_ble_eq_true rfl) ?_
    intro X F E _
    change gF G z0 X cX1_behindFirst 1 RX1 wsX1_behindFirst (some (.object "SteadyQueues$Cell")) "behindFirst" 0 0 _ _ at F
    show gV G z0 X 0 0 h 0 [(0, .ref a)] []
    obtain ⟨x, nx, ha, hn, -⟩ := isL.tail hr
    refine v_aload_n (pc' := 1) F dX1_behindFirst_0 rfl (j := 0) rfl rfl ?_
    refine v_ifnonnull (tgt := 8) F dX1_behindFirst_1 (by decide) ?_
    refine v_aload_n (pc' := 9) F dX1_behindFirst_8 rfl (j := 0) rfl rfl ?_
    refine v_getf (pc' := 12) (v := va_rf nx) F k_X1_behindFirst_1 ha 1 (by decide) m_X1_behindFirst_f15 rfl dX1_behindFirst_9 rfl ?_
    exact v_aret (r := nx) F E (by omega) (by omega) dX1_behindFirst_12 ⟨_, rfl, hn, rfl⟩
theorem k_X1_sizeOf_1 : gCl wsX1_sizeOf 1 RX1 TX1 2 := ⟨by decide +kernel, rfl⟩
theorem m_X1_sizeOf_f15 : Cond.fieldLink RX1 15 "SteadyQueues$Cell" "next" "LSteadyQueues$Cell;" ∈ wsX1_sizeOf := by decide +kernel
set_option maxHeartbeats 4000000 in
set_option maxRecDepth 100000 in
theorem lp_X1_sizeOf {G : gG} {z0 : Nat} {X : gX} {h : gH} {post : Option Value → gH → Prop} {mc ms cells slots : Nat} {ys : List Int32} {k : Nat} {r r0 : Option Nat} (F : gF G z0 X cX1_sizeOf 3 RX1 wsX1_sizeOf (some .int) "sizeOf" 0 0 mc ms) (E : gE G z0 X post mc ms) (hcc : cells ≤ mc) (hss : slots ≤ ms) (hr : isL h ys r) (hk : k + ys.length < 2147483648) (hp : post (some (.int (nI (k + ys.length)))) h) : gV G z0 X cells slots h 4 [(2, va_rf r), (1, .int (nI k)), (0, va_rf r0)] [] := by
  induction ys generalizing k r with
  | nil =>
    cases hr
    refine v_aload0_n (pc' := 5) F dX1_sizeOf_4 rfl (j := 0) rfl rfl ?_
    refine v_ifnullN (tgt := 19) F dX1_sizeOf_5 (by decide) ?_
    refine v_iload_n (pc' := 20) F dX1_sizeOf_19 rfl (j := 1) rfl rfl ?_
    exact v_iret F E (by omega) (by omega)  dX1_sizeOf_20 hp
  | cons y ys ih =>
    obtain ⟨a, nx, rfl, ha, hn⟩ := hr
    have hkl : k + (ys.length + 1) < 2147483648 := hk
    refine v_aload_n (pc' := 5) F dX1_sizeOf_4 rfl (j := 0) rfl rfl ?_
    refine v_ifnull (pc' := 8) F dX1_sizeOf_5 rfl ?_
    refine v_iinc (pc' := 11) (j := 1) (x := nI k) (v := nI (k + 1)) (L' := [(1, .int (nI (k + 1))), (2, .ref a), (0, va_rf r0)]) F dX1_sizeOf_8 rfl (nI_add k 1) (by decide) (by simp [gcat, gci, gcr, gcn, gcl, gvs, gvn]) rfl ?_
    refine v_aload_n (pc' := 12) F dX1_sizeOf_11 rfl (j := 1) rfl rfl ?_
    refine v_getf (pc' := 15) (v := va_rf nx) F k_X1_sizeOf_1 ha 1 (by decide) m_X1_sizeOf_f15 rfl dX1_sizeOf_12 rfl ?_
    refine v_astoreq_n (pc' := 16) (i := 2) (L' := [(2, va_rf nx), (1, .int (nI (k + 1))), (0, va_rf r0)]) F dX1_sizeOf_15 rfl (by decide) rfl rfl ?_
    refine v_goto (tgt := 4) F dX1_sizeOf_16 (by decide) ?_
    refine v_sub (L' := [(2, va_rf nx), (1, .int (nI (k + 1))), (0, va_rf r0)]) [0, 1, 2] rfl ?_
    exact ih (k := k + 1) hn (by omega) (by rw [show k + 1 + ys.length = k + (ys.length + 1) by omega]; exact hp)
set_option maxHeartbeats 4000000 in
set_option maxRecDepth 100000 in
/-- how many values a list has -/
theorem c_X1_sizeOf (G : gG) (z0 : Nat) (l : Launch) {h : gH} {xs : List Int32} {r : Option Nat} (hr : isL h xs r) (hk : xs.length < 2147483648) : gC G z0 l yX1_sizeOf wsX1_sizeOf 0 0 [va_rf r] h (fun v h' => v = some (.int (nI xs.length)) ∧ h' = h) 0 0 := by
  refine gC_of (cc := cX1_sizeOf) (nL := 3) (ret := (some .int)) (by decide) rfl (by simp [lg_sl, gcat, gci, gcr, gcn, gcl, gvs, gvn]) ?_
  intro X F E _
  rw [show lv_args 0 [va_rf r] = [(0, va_rf r)] from by simp [lv_args, gcat, gci, gcr, gcn, gcl, gvs, gvn]]
  change gF G z0 X cX1_sizeOf 3 RX1 wsX1_sizeOf (some .int) "sizeOf" 0 0 _ _ at F
  show gV G z0 X 0 0 h 0 [(0, va_rf r)] []
  refine v_iconst (pc' := 1) (v := nI 0) F dX1_sizeOf_0 (by decide) rfl ?_
  refine v_istore_n (pc' := 2) (i := 1) (L' := [(1, .int (nI 0)), (0, va_rf r)]) F dX1_sizeOf_1 rfl (by decide) (by simp [gcat, gci, gcr, gcn, gcl, gvs, gvn]) rfl ?_
  refine v_aloadq_n (pc' := 3) F dX1_sizeOf_2 rfl (j := 1) rfl rfl ?_
  refine v_astoreq_n (pc' := 4) (i := 2) (L' := [(2, va_rf r), (1, .int (nI 0)), (0, va_rf r)]) F dX1_sizeOf_3 rfl (by decide) rfl rfl ?_
  refine v_sub (L' := [(2, va_rf r), (1, .int (nI 0)), (0, va_rf r)]) [0, 1, 2] rfl ?_
  exact lp_X1_sizeOf F E (Nat.le_refl _) (Nat.le_refl _) hr (by omega) ⟨by rw [Nat.zero_add], rfl⟩
/-- the value at a place of a list whose first place is k, -1 where it has none -/
def vAt (p : Int32) : List Int32 → Nat → Int32
  | [], _ => -1
  | x :: xs, k => if nI k = p then x else vAt p xs (k + 1)
theorem k_X1_valueAt_1 : gCl wsX1_valueAt 1 RX1 TX1 2 := ⟨by decide +kernel, rfl⟩
theorem m_X1_valueAt_f15 : Cond.fieldLink RX1 15 "SteadyQueues$Cell" "next" "LSteadyQueues$Cell;" ∈ wsX1_valueAt := by decide +kernel
theorem m_X1_valueAt_f9 : Cond.fieldLink RX1 9 "SteadyQueues$Cell" "value" "I" ∈ wsX1_valueAt := by decide +kernel
set_option maxHeartbeats 4000000 in
set_option maxRecDepth 100000 in
theorem lp_X1_valueAt {G : gG} {z0 : Nat} {X : gX} {h : gH} {post : Option Value → gH → Prop} {mc ms cells slots : Nat} {ys : List Int32} {k : Nat} {pl : Int32} {r r0 : Option Nat} (F : gF G z0 X cX1_valueAt 4 RX1 wsX1_valueAt (some .int) "valueAt" 0 0 mc ms) (E : gE G z0 X post mc ms) (hcc : cells ≤ mc) (hss : slots ≤ ms) (hr : isL h ys r) (hk : k + ys.length < 2147483648) (hp : post (some (.int (vAt pl ys k))) h) : gV G z0 X cells slots h 4 [(3, va_rf r), (2, .int (nI k)), (1, .int pl), (0, va_rf r0)] [] := by
  induction ys generalizing k r with
  | nil =>
    cases hr
    refine v_aload0_n (pc' := 5) F dX1_valueAt_4 rfl (j := 0) rfl rfl ?_
    refine v_ifnullN (tgt := 29) F dX1_valueAt_5 (by decide) ?_
    refine v_iconst (pc' := 30) (v := (-1)) F dX1_valueAt_29 (by decide) rfl ?_
    exact v_iret F E (by omega) (by omega)  dX1_valueAt_30 hp
  | cons y ys ih =>
    obtain ⟨a, nx, rfl, ha, hn⟩ := hr
    have hkl : k + (ys.length + 1) < 2147483648 := hk
    refine v_aload_n (pc' := 5) F dX1_valueAt_4 rfl (j := 0) rfl rfl ?_
    refine v_ifnull (pc' := 8) F dX1_valueAt_5 rfl ?_
    refine v_iload_n (pc' := 9) F dX1_valueAt_8 rfl (j := 1) rfl rfl ?_
    refine v_iload_n (pc' := 10) F dX1_valueAt_9 rfl (j := 2) rfl rfl ?_
    refine v_icmp_ne (tgt := 18) (pc' := 13) F dX1_valueAt_10 (by decide) rfl (fun c => ?_) (fun c => ?_)
    · refine v_iinc (pc' := 21) (j := 1) (x := nI k) (v := nI (k + 1)) (L' := [(2, .int (nI (k + 1))), (3, .ref a), (1, .int pl), (0, va_rf r0)]) F dX1_valueAt_18 rfl (nI_add k 1) (by decide) rfl rfl ?_
      refine v_aload_n (pc' := 22) F dX1_valueAt_21 rfl (j := 1) rfl rfl ?_
      refine v_getf (pc' := 25) (v := va_rf nx) F k_X1_valueAt_1 ha 1 (by decide) m_X1_valueAt_f15 rfl dX1_valueAt_22 rfl ?_
      refine v_astoreq_n (pc' := 26) (i := 3) (L' := [(3, va_rf nx), (2, .int (nI (k + 1))), (1, .int pl), (0, va_rf r0)]) F dX1_valueAt_25 rfl (by decide) rfl rfl ?_
      refine v_goto (tgt := 4) F dX1_valueAt_26 (by decide) ?_
      refine v_sub (L' := [(3, va_rf nx), (2, .int (nI (k + 1))), (1, .int pl), (0, va_rf r0)]) [0, 1, 2, 3] rfl ?_
      exact ih (k := k + 1) hn (by omega) (by unfold vAt at hp; rw [if_neg c] at hp; exact hp)
    · refine v_aload_n (pc' := 14) F dX1_valueAt_13 rfl (j := 0) rfl rfl ?_
      refine v_getf (pc' := 17) (v := .int y) F k_X1_valueAt_1 ha 0 (by decide) m_X1_valueAt_f9 rfl dX1_valueAt_14 rfl ?_
      exact v_iret F E (by omega) (by omega)  dX1_valueAt_17 (by unfold vAt at hp; rw [if_pos c] at hp; exact hp)
set_option maxHeartbeats 4000000 in
set_option maxRecDepth 100000 in
/-- the value at a place -/
theorem c_X1_valueAt (G : gG) (z0 : Nat) (l : Launch) {h : gH} {xs : List Int32} {r : Option Nat} (pl : Int32) (hr : isL h xs r) (hk : xs.length < 2147483648) : gC G z0 l yX1_valueAt wsX1_valueAt 0 0 [va_rf r, .int pl] h (fun v h' => v = some (.int (vAt pl xs 0)) ∧ h' = h) 0 0 := by
  refine gC_of (cc := cX1_valueAt) (nL := 4) (ret := (some .int)) (by decide) rfl (by simp [lg_sl, gcat, gci, gcr, gcn, gcl, gvs, gvn]) ?_
  intro X F E _
  rw [show lv_args 0 [va_rf r, .int pl] = [(0, va_rf r), (1, .int pl)] from by simp [lv_args, gcat, gci, gcr, gcn, gcl, gvs, gvn]]
  change gF G z0 X cX1_valueAt 4 RX1 wsX1_valueAt (some .int) "valueAt" 0 0 _ _ at F
  show gV G z0 X 0 0 h 0 [(0, va_rf r), (1, .int pl)] []
  refine v_iconst (pc' := 1) (v := nI 0) F dX1_valueAt_0 (by decide) rfl ?_
  refine v_istore_n (pc' := 2) (i := 2) (L' := [(2, .int (nI 0)), (0, va_rf r), (1, .int pl)]) F dX1_valueAt_1 rfl (by decide) rfl rfl ?_
  refine v_aloadq_n (pc' := 3) F dX1_valueAt_2 rfl (j := 1) rfl rfl ?_
  refine v_astoreq_n (pc' := 4) (i := 3) (L' := [(3, va_rf r), (2, .int (nI 0)), (0, va_rf r), (1, .int pl)]) F dX1_valueAt_3 rfl (by decide) rfl rfl ?_
  refine v_sub (L' := [(3, va_rf r), (2, .int (nI 0)), (1, .int pl), (0, va_rf r)]) [0, 1, 3, 2] rfl ?_
  exact lp_X1_valueAt F E (Nat.le_refl _) (Nat.le_refl _) hr (by omega) ⟨rfl, rfl⟩
theorem k_X1_writeFirst_1 : gCl wsX1_writeFirst 1 RX1 TX1 2 := ⟨by decide +kernel, rfl⟩
theorem m_X1_writeFirst_f15 : Cond.fieldLink RX1 15 "SteadyQueues$Cell" "next" "LSteadyQueues$Cell;" ∈ wsX1_writeFirst := by decide +kernel
theorem m_X1_writeFirst_f9 : Cond.fieldLink RX1 9 "SteadyQueues$Cell" "value" "I" ∈ wsX1_writeFirst := by decide +kernel
set_option maxHeartbeats 4000000 in
set_option maxRecDepth 100000 in
theorem lp_X1_writeFirst {G : gG} {z0 : Nat} {X : gX} {h : gH} {post : Option Value → gH → Prop} {mc ms cells slots : Nat} {ys : List Int32} {k p m N w : Nat} {f : Nat → Int32} {r r0 : Option Nat} (F : gF G z0 X cX1_writeFirst 6 RX1 wsX1_writeFirst (some .int) "writeFirst" 0 0 mc ms) (E : gE G z0 X post mc ms) (hcc : cells ≤ mc) (hss : slots ≤ ms) (hN : N < 2147483648) (hm : m < 2147483648) (hr : isL h ys r) (hw : h w = some (oI G N f)) (hb : p + k + (ys.take (m - k)).length ≤ N) (hp : ∀ h' f', h' w = some (oI G N f') → gfr [w] h h' → fHas f' (p + k) (ys.take (m - k)) → (∀ j, j < p + k → f' j = f j) → post (some (.int (nI (p + k + (ys.take (m - k)).length)))) h') : gV G z0 X cells slots h 6 [(5, va_rf r), (4, .int (nI (p + k))), (3, .int (nI p)), (2, .ref w), (1, .int (nI m)), (0, va_rf r0)] [] := by
  induction ys generalizing k r h f with
  | nil =>
    cases hr
    refine v_aload0 (pc' := 8) F dX1_writeFirst_6  (j := 0) rfl rfl ?_
    refine v_ifnullN (tgt := 48) F dX1_writeFirst_8 (by decide) ?_
    refine v_iload (pc' := 50) F dX1_writeFirst_48  (j := 1) rfl rfl ?_
    exact v_iret F E (by omega) (by omega)  dX1_writeFirst_50 (by
          have := hp h f hw gfr.rf (fun j hj => by simp at hj) (fun _ _ => rfl)
          simpa using this)
  | cons y ys ih =>
    obtain ⟨a, nx, rfl, ha, hn⟩ := hr
    refine v_aload (pc' := 8) F dX1_writeFirst_6  (j := 0) rfl rfl ?_
    refine v_ifnull (pc' := 11) F dX1_writeFirst_8 rfl ?_
    refine v_iload (pc' := 13) F dX1_writeFirst_11  (j := 1) rfl rfl ?_
    refine v_iload_n (pc' := 14) F dX1_writeFirst_13 rfl (j := 2) rfl rfl ?_
    refine v_isub (pc' := 15) (v := nI (p + k - p)) F dX1_writeFirst_14 (g_subn (by omega) (by omega)) rfl ?_
    refine v_iload_n (pc' := 16) F dX1_writeFirst_15 rfl (j := 4) rfl rfl ?_
    refine w_icmp_ge (tgt := 38) (pc' := 19) F (by omega) (by omega) dX1_writeFirst_16 (by decide) rfl (fun c1 => ?_) (fun c1 => ?_)
    · refine v_aload (pc' := 40) F dX1_writeFirst_38  (j := 0) rfl rfl ?_
      refine v_getf (pc' := 43) (v := va_rf nx) F k_X1_writeFirst_1 ha 1 (by decide) m_X1_writeFirst_f15 rfl dX1_writeFirst_40 rfl ?_
      refine v_astoreq (pc' := 45) (i := 5) (L' := [(5, va_rf nx), (4, .int (nI (p + k))), (3, .int (nI p)), (2, .ref w), (1, .int (nI m)), (0, va_rf r0)]) F dX1_writeFirst_43  (by decide) rfl rfl ?_
      refine v_goto (tgt := 6) F dX1_writeFirst_45 (by decide) ?_
      refine v_sub (L' := [(5, va_rf nx), (4, .int (nI (p + k))), (3, .int (nI p)), (2, .ref w), (1, .int (nI m)), (0, va_rf r0)]) [0, 1, 2, 3, 4, 5] rfl ?_
      exact ih (k := k) hn hw (by have : ((y :: ys).take (m - k)).length = 0 := by simp; omega
                                  have h2 : (ys.take (m - k)).length = 0 := by simp; omega
                                  omega) (fun h' f' q1 q2 q3 q4 => by
            have e1 : m - k = 0 := by omega
            have := hp h' f' q1 q2 (by rw [e1]; exact fun j hj => by simp at hj) q4
            rw [e1] at this ⊢
            simpa using this)
    · refine v_iload (pc' := 21) F dX1_writeFirst_19  (j := 1) rfl rfl ?_
      refine v_aload_n (pc' := 22) F dX1_writeFirst_21 rfl (j := 3) rfl rfl ?_
      refine w_alenI (pc' := 23) F hw dX1_writeFirst_22 rfl ?_
      refine w_icmp_ge (tgt := 38) (pc' := 26) F (by omega) (by omega) dX1_writeFirst_23 (by decide) rfl (fun c2 => ?_) (fun c2 => ?_)
      · (simp only [List.length_take, List.length_cons] at hb; omega)
      · refine v_aload_n (pc' := 27) F dX1_writeFirst_26 rfl (j := 3) rfl rfl ?_
        refine v_iload (pc' := 29) F dX1_writeFirst_27  (j := 1) rfl rfl ?_
        refine v_aload (pc' := 31) F dX1_writeFirst_29  (j := 0) rfl rfl ?_
        refine v_getf (pc' := 34) (v := .int y) F k_X1_writeFirst_1 ha 0 (by decide) m_X1_writeFirst_f9 rfl dX1_writeFirst_31 rfl ?_
        refine w_iast (pc' := 35) F hw (by omega) (by omega) dX1_writeFirst_34 rfl (fun h1 a2 f3 => ?_)
        refine v_iinc (pc' := 38) (j := 1) (x := nI (p + k)) (v := nI (p + k + 1)) (L' := [(4, .int (nI (p + k + 1))), (5, .ref a), (3, .int (nI p)), (2, .ref w), (1, .int (nI m)), (0, va_rf r0)]) F dX1_writeFirst_35 rfl (nI_add (p + k) 1) (by decide) rfl rfl ?_
        refine v_aload (pc' := 40) F dX1_writeFirst_38  (j := 1) rfl rfl ?_
        have g4 := f3 _ _ (gnc (g_neA ha hw) gn0) ha
        refine v_getf (pc' := 43) (v := va_rf nx) F k_X1_writeFirst_1 g4 1 (by decide) m_X1_writeFirst_f15 rfl dX1_writeFirst_40 rfl ?_
        refine v_astoreq (pc' := 45) (i := 5) (L' := [(5, va_rf nx), (4, .int (nI (p + k + 1))), (3, .int (nI p)), (2, .ref w), (1, .int (nI m)), (0, va_rf r0)]) F dX1_writeFirst_43  (by decide) rfl rfl ?_
        refine v_goto (tgt := 6) F dX1_writeFirst_45 (by decide) ?_
        refine v_sub (L' := [(5, va_rf nx), (4, .int (nI (p + k + 1))), (3, .int (nI p)), (2, .ref w), (1, .int (nI m)), (0, va_rf r0)]) [0, 1, 2, 3, 4, 5] rfl ?_
        have hpl : gpl h h1 := gfr.pl f3 (fun a9 m9 fs9 z9 => by rw [List.mem_singleton.mp m9, hw] at z9; cases z9)
        exact ih (k := k + 1) (hn.keep hpl) a2 (by simp only [List.length_take, List.length_cons] at hb ⊢; omega) (fun h' f' q1 q2 q3 q4 => by
            have e1 : m - k = (m - (k + 1)) + 1 := by omega
            have := hp h' f' q1 (gfr.tr f3 q2 (fun _ z => ⟨z, z⟩)) (by
              rw [e1, List.take_succ_cons]
              intro j hj
              cases j with
              | zero => rw [Nat.add_zero, q4 _ (by omega), upd_eq]; rfl
              | succ j =>
                have := q3 j (by simpa using hj)
                rw [show p + k + (j + 1) = p + (k + 1) + j by omega, this]; rfl) (fun j hj => by rw [q4 j (by omega), upd_ne (by omega)])
            rw [e1, List.take_succ_cons] at this
            rw [show p + (k + 1) + (ys.take (m - (k + 1))).length = p + k + (y :: ys.take (m - (k + 1))).length by simp only [List.length_cons]; omega]
            exact this)
set_option maxHeartbeats 4000000 in
set_option maxRecDepth 100000 in
/-- the first values into a row -/
theorem c_X1_writeFirst (G : gG) (z0 : Nat) (l : Launch) {h : gH} {xs : List Int32} {r : Option Nat} {m p N w : Nat} {f : Nat → Int32} (hN : N < 2147483648) (hm : m < 2147483648) (hr : isL h xs r) (hw : h w = some (oI G N f)) (hb : p + (xs.take m).length ≤ N) : gC G z0 l yX1_writeFirst wsX1_writeFirst 0 0 [va_rf r, .int (nI m), .ref w, .int (nI p)] h (fun v h' => v = some (.int (nI (p + (xs.take m).length))) ∧ ∃ f', h' w = some (oI G N f') ∧ fHas f' p (xs.take m) ∧ (∀ j, j < p → f' j = f j) ∧ gfr [w] h h') 0 0 := by
  refine gC_of (cc := cX1_writeFirst) (nL := 6) (ret := (some .int)) (by decide) rfl (by simp [lg_sl, gcat, gci, gcr, gcn, gcl, gvs, gvn]) ?_
  intro X F E _
  rw [show lv_args 0 [va_rf r, .int (nI m), .ref w, .int (nI p)] = [(0, va_rf r), (1, .int (nI m)), (2, .ref w), (3, .int (nI p))] from by simp [lv_args, gcat, gci, gcr, gcn, gcl, gvs, gvn]]
  change gF G z0 X cX1_writeFirst 6 RX1 wsX1_writeFirst (some .int) "writeFirst" 0 0 _ _ at F
  show gV G z0 X 0 0 h 0 [(0, va_rf r), (1, .int (nI m)), (2, .ref w), (3, .int (nI p))] []
  refine v_iload_n (pc' := 1) F dX1_writeFirst_0 rfl (j := 3) rfl rfl ?_
  refine v_istore (pc' := 3) (i := 4) (L' := [(4, .int (nI p)), (0, va_rf r), (1, .int (nI m)), (2, .ref w), (3, .int (nI p))]) F dX1_writeFirst_1  (by decide) rfl rfl ?_
  refine v_aloadq_n (pc' := 4) F dX1_writeFirst_3 rfl (j := 1) rfl rfl ?_
  refine v_astoreq (pc' := 6) (i := 5) (L' := [(5, va_rf r), (4, .int (nI p)), (0, va_rf r), (1, .int (nI m)), (2, .ref w), (3, .int (nI p))]) F dX1_writeFirst_4  (by decide) rfl rfl ?_
  refine v_sub (L' := [(5, va_rf r), (4, .int (nI (p + 0))), (3, .int (nI p)), (2, .ref w), (1, .int (nI m)), (0, va_rf r)]) [0, 1, 5, 4, 3, 2] rfl ?_
  exact lp_X1_writeFirst (k := 0) F E (Nat.le_refl _) (Nat.le_refl _) hN hm hr hw (by simpa using hb) (fun h' f' q1 q2 q3 q4 => ⟨by simp, f', q1, by simpa using q3, fun j hj => q4 j (by omega), q2⟩)
theorem k_X1_writeReversed_1 : gCl wsX1_writeReversed 1 RX1 TX1 2 := ⟨by decide +kernel, rfl⟩
theorem m_X1_writeReversed_f9 : Cond.fieldLink RX1 9 "SteadyQueues$Cell" "value" "I" ∈ wsX1_writeReversed := by decide +kernel
theorem m_X1_writeReversed_f15 : Cond.fieldLink RX1 15 "SteadyQueues$Cell" "next" "LSteadyQueues$Cell;" ∈ wsX1_writeReversed := by decide +kernel
set_option maxHeartbeats 4000000 in
set_option maxRecDepth 100000 in
theorem lp_X1_writeReversed {G : gG} {z0 : Nat} {X : gX} {h : gH} {post : Option Value → gH → Prop} {mc ms cells slots : Nat} {ys : List Int32} {p e1 N w : Nat} {f : Nat → Int32} {r r0 : Option Nat} (F : gF G z0 X cX1_writeReversed 6 RX1 wsX1_writeReversed (some .int) "writeReversed" 1 22 mc ms) (E : gE G z0 X post mc ms) (hcc : cells ≤ mc) (hss : slots ≤ ms) (hN : N < 2147483648) (hr : isL h ys r) (hw : h w = some (oI G N f)) (hb : p + ys.length ≤ e1) (he : e1 ≤ N) (hp : ∀ h' f', h' w = some (oI G N f') → gfr [w] h h' → fHas f' p ys.reverse → (∀ j, j < p → f' j = f j) → (∀ j, p + ys.length ≤ j → f' j = f j) → post (some (.int (nI (min e1 N)))) h') : gV G z0 X cells slots h 13 [(5, va_rf r), (4, .int (nI (p + ys.length))), (3, .int (nI e1)), (2, .int (nI p)), (1, .ref w), (0, va_rf r0)] [] := by
  induction ys generalizing r h f with
  | nil =>
    cases hr
    refine v_aload0 (pc' := 15) F dX1_writeReversed_13  (j := 0) rfl rfl ?_
    refine v_ifnullN (tgt := 52) F dX1_writeReversed_15 (by decide) ?_
    refine v_iload_n (pc' := 53) F dX1_writeReversed_52 rfl (j := 2) rfl rfl ?_
    refine v_aload_n (pc' := 54) F dX1_writeReversed_53 rfl (j := 4) rfl rfl ?_
    refine w_alenI (pc' := 55) F hw dX1_writeReversed_54 rfl ?_
    refine w_icmp_ge (tgt := 62) (pc' := 58) F (by omega) (by omega) dX1_writeReversed_55 (by decide) rfl (fun c => ?_) (fun c => ?_)
    · refine v_aload_n (pc' := 63) F dX1_writeReversed_62 rfl (j := 4) rfl rfl ?_
      refine w_alenI (pc' := 64) F hw dX1_writeReversed_63 rfl ?_
      exact v_iret F E (by omega) (by omega)  dX1_writeReversed_64 (by rw [show min e1 N = N by omega] at hp; exact hp h f hw gfr.rf (fun j hj => by simp at hj) (fun _ _ => rfl) (fun _ _ => rfl))
    · refine v_iload_n (pc' := 59) F dX1_writeReversed_58 rfl (j := 2) rfl rfl ?_
      refine v_goto (tgt := 64) F dX1_writeReversed_59 (by decide) ?_
      exact v_iret F E (by omega) (by omega)  dX1_writeReversed_64 (by rw [show min e1 N = e1 by omega] at hp; exact hp h f hw gfr.rf (fun j hj => by simp at hj) (fun _ _ => rfl) (fun _ _ => rfl))
  | cons y ys ih =>
    obtain ⟨a, nx, rfl, ha, hn⟩ := hr
    have hb1 : p + (ys.length + 1) ≤ e1 := hb
    refine v_conv (h' := h) (L' := [(5, .ref a), (4, .int (nI (p + (ys.length + 1)))), (3, .int (nI e1)), (2, .int (nI p)), (1, .ref w), (0, va_rf r0)]) rfl rfl rfl ?_
    refine v_aload (pc' := 15) F dX1_writeReversed_13  (j := 0) rfl rfl ?_
    refine v_ifnull (pc' := 18) F dX1_writeReversed_15 rfl ?_
    refine v_iinc (pc' := 21) (j := 1) (x := nI (p + (ys.length + 1))) (v := nI (p + (ys.length + 1) - 1)) (L' := [(4, .int (nI (p + (ys.length + 1) - 1))), (5, .ref a), (3, .int (nI e1)), (2, .int (nI p)), (1, .ref w), (0, va_rf r0)]) F dX1_writeReversed_18 rfl (g_dec (by omega)) (by decide) rfl rfl ?_
    refine v_iload (pc' := 23) F dX1_writeReversed_21  (j := 0) rfl rfl ?_
    refine w_if_lt (tgt := 42) (pc' := 26) F (by omega) dX1_writeReversed_23 (by decide) rfl (fun c1 => ?_) (fun c1 => ?_)
    · omega
    · refine v_iload (pc' := 28) F dX1_writeReversed_26  (j := 0) rfl rfl ?_
      refine v_aload_n (pc' := 29) F dX1_writeReversed_28 rfl (j := 4) rfl rfl ?_
      refine w_alenI (pc' := 30) F hw dX1_writeReversed_29 rfl ?_
      refine w_icmp_ge (tgt := 42) (pc' := 33) F (by omega) (by omega) dX1_writeReversed_30 (by decide) rfl (fun c2 => ?_) (fun c2 => ?_)
      · omega
      · refine v_aload_n (pc' := 34) F dX1_writeReversed_33 rfl (j := 4) rfl rfl ?_
        refine v_iload (pc' := 36) F dX1_writeReversed_34  (j := 0) rfl rfl ?_
        refine v_aload (pc' := 38) F dX1_writeReversed_36  (j := 1) rfl rfl ?_
        refine v_getf (pc' := 41) (v := .int y) F k_X1_writeReversed_1 ha 0 (by decide) m_X1_writeReversed_f9 rfl dX1_writeReversed_38 rfl ?_
        refine w_iast (pc' := 42) F hw (by omega) (by omega) dX1_writeReversed_41 rfl (fun h1 a2 f3 => ?_)
        refine v_aload (pc' := 44) F dX1_writeReversed_42  (j := 1) rfl rfl ?_
        have g4 := f3 _ _ (gnc (g_neA ha hw) gn0) ha
        refine v_getf (pc' := 47) (v := va_rf nx) F k_X1_writeReversed_1 g4 1 (by decide) m_X1_writeReversed_f15 rfl dX1_writeReversed_44 rfl ?_
        refine v_astoreq (pc' := 49) (i := 5) (L' := [(5, va_rf nx), (4, .int (nI (p + (ys.length + 1) - 1))), (3, .int (nI e1)), (2, .int (nI p)), (1, .ref w), (0, va_rf r0)]) F dX1_writeReversed_47  (by decide) rfl rfl ?_
        refine v_goto (tgt := 13) F dX1_writeReversed_49 (by decide) ?_
        refine v_sub (L' := [(5, va_rf nx), (4, .int (nI (p + ys.length))), (3, .int (nI e1)), (2, .int (nI p)), (1, .ref w), (0, va_rf r0)]) [0, 1, 2, 3, 4, 5] rfl ?_
        have hpl : gpl h h1 := gfr.pl f3 (fun a9 m9 fs9 z9 => by rw [List.mem_singleton.mp m9, hw] at z9; cases z9)
        exact ih (hn.keep hpl) a2 (by omega) (fun h' f' q1 q2 q3 q4 q5 => hp h' f' q1 (gfr.t f3 q2) (by
            intro j hj
            rw [List.reverse_cons]
            simp only [List.reverse_cons, List.length_append, List.length_reverse, List.length_cons, List.length_nil] at hj
            by_cases hjl : j < ys.length
            · rw [q3 j (by simpa using hjl), gd_l (by simpa using hjl)]
            · have : j = ys.length := by omega
              subst this
              rw [q5 _ (Nat.le_refl _), show p + (ys.length + 1) - 1 = p + ys.length by omega, upd_eq, gd_r (by simp)]
              simp) (fun j hj => by rw [q4 j hj, upd_ne (by omega)]) (fun j hj => by rw [q5 j (by simp only [List.length_cons] at hj; omega), upd_ne (by simp only [List.length_cons] at hj; omega)]))
theorem hd_X1_sizeOf : yX1_sizeOf.cls ≠ "java/lang/invoke/MethodHandle" ∧ yX1_sizeOf.cls ≠ "java/lang/invoke/VarHandle" ∧ (parseMethodDescriptor yX1_sizeOf.desc).map (fun d => d.parameters.length) = some 1 := by decide +kernel
set_option maxHeartbeats 4000000 in
set_option maxRecDepth 100000 in
/-- all values into a row, the last one first -/
theorem c_X1_writeReversed (G : gG) (z0 : Nat) (l : Launch) {h : gH} {xs : List Int32} {r : Option Nat} {p N w : Nat} {f : Nat → Int32} (hN : N < 2147483648) (hr : isL h xs r) (hw : h w = some (oI G N f)) (hb : p + xs.length ≤ N) : gC G z0 l yX1_writeReversed wsX1_writeReversed 1 22 [va_rf r, .ref w, .int (nI p)] h (fun v h' => v = some (.int (nI (p + xs.length))) ∧ ∃ f', h' w = some (oI G N f') ∧ fHas f' p xs.reverse ∧ (∀ j, j < p → f' j = f j) ∧ gfr [w] h h') 0 0 := by
  refine gC_of (cc := cX1_writeReversed) (nL := 6) (ret := (some .int)) (by decide) rfl (by simp [lg_sl, gcat, gci, gcr, gcn, gcl, gvs, gvn]) ?_
  intro X F E _
  rw [show lv_args 0 [va_rf r, .ref w, .int (nI p)] = [(0, va_rf r), (1, .ref w), (2, .int (nI p))] from by simp [lv_args, gcat, gci, gcr, gcn, gcl, gvs, gvn]]
  change gF G z0 X cX1_writeReversed 6 RX1 wsX1_writeReversed (some .int) "writeReversed" 1 22 _ _ at F
  show gV G z0 X 0 0 h 0 [(0, va_rf r), (1, .ref w), (2, .int (nI p))] []
  refine v_iload_n (pc' := 1) F dX1_writeReversed_0 rfl (j := 2) rfl rfl ?_
  refine v_aloadq_n (pc' := 2) F dX1_writeReversed_1 rfl (j := 0) rfl rfl ?_
  refine v_callS (pc' := 5) (rt := (some .int)) (mcc := 0) (msc := 0) (As := [va_rf r]) (st := [.int (nI p)]) F (fun l => c_X1_sizeOf G z0 l hr (by omega)) gX1_writeReversed_X1_sizeOf rfl hd_X1_sizeOf (by decide) (by decide) rfl rfl (Nat.le_of_ble_eq_true rfl) (by omega) (by omega) dX1_writeReversed_2 rfl (fun v1 h hq => ?_)
  obtain ⟨rfl, rfl⟩ := hq
  refine v_iadd (pc' := 6) (v := nI (p + xs.length)) F dX1_writeReversed_5 (nI_add p xs.length) rfl ?_
  refine v_istore_n (pc' := 7) (i := 3) (L' := [(3, .int (nI (p + xs.length))), (0, va_rf r), (1, .ref w), (2, .int (nI p))]) F dX1_writeReversed_6 rfl (by decide) rfl rfl ?_
  refine v_iload_n (pc' := 8) F dX1_writeReversed_7 rfl (j := 0) rfl rfl ?_
  refine v_istore (pc' := 10) (i := 4) (L' := [(4, .int (nI (p + xs.length))), (3, .int (nI (p + xs.length))), (0, va_rf r), (1, .ref w), (2, .int (nI p))]) F dX1_writeReversed_8  (by decide) rfl rfl ?_
  refine v_aloadq_n (pc' := 11) F dX1_writeReversed_10 rfl (j := 2) rfl rfl ?_
  refine v_astoreq (pc' := 13) (i := 5) (L' := [(5, va_rf r), (4, .int (nI (p + xs.length))), (3, .int (nI (p + xs.length))), (0, va_rf r), (1, .ref w), (2, .int (nI p))]) F dX1_writeReversed_11  (by decide) rfl rfl ?_
  refine v_sub (L' := [(5, va_rf r), (4, .int (nI (p + xs.length))), (3, .int (nI (p + xs.length))), (2, .int (nI p)), (1, .ref w), (0, va_rf r)]) [0, 1, 2, 5, 4, 3] rfl ?_
  exact lp_X1_writeReversed F E (Nat.le_refl _) (Nat.le_refl _) hN hr hw (Nat.le_refl _) hb (fun h' f' q1 q2 q3 q4 q5 => ⟨by rw [Nat.min_eq_left hb], f', q1, q3, q4, q2⟩)

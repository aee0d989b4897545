/-! THE REFERENCE: a slot of its rows tells the data -/
def parI (D : Dt) (v : Nat) : Int32 := if v = 0 then -1 else nI (D.2.2.2.1 v)
def pcO (os : List mO) : Nat := match os with
  | [] => 0
  | o :: _ => o.2
def slV (R : Nat → Int32) (b : Nat) (D : Dt) (v : Nat) : Prop := R (b + (10 + 5 * v + 0)) = parI D v ∧ R (b + (10 + 5 * v + 1)) = hdP (D.2.2.2.2 v) ∧ R (b + (10 + 5 * v + 2)) = nI (pcO (D.2.2.2.2 v)) ∧ R (b + (10 + 5 * v + 3)) = nI (D.2.2.2.2 v).length ∧ R (b + (10 + 5 * v + 4)) = nI (qOf (D.2.2.2.2 v)).2
def slP (R : Nat → Int32) (b : Nat) (D : Dt) : Prop := R b = nI D.1 ∧ R (b + 1) = nI D.2.1 ∧ R (b + 2) = nI D.2.2.1 ∧ ∀ v, v < D.1 → R (b + (10 + 5 * v + 0)) = parI D v ∧ R (b + (10 + 5 * v + 1)) = hdP (D.2.2.2.2 v) ∧ R (b + (10 + 5 * v + 2)) = nI (pcO (D.2.2.2.2 v)) ∧ R (b + (10 + 5 * v + 3)) = nI (D.2.2.2.2 v).length
def slD (R : Nat → Int32) (b : Nat) (D : Dt) : Prop := R b = nI D.1 ∧ R (b + 1) = nI D.2.1 ∧ R (b + 2) = nI D.2.2.1 ∧ ∀ v, v < D.1 → slV R b D v
theorem slD.p {R : Nat → Int32} {b : Nat} {D : Dt} (h : slD R b D) : slP R b D := ⟨h.1, h.2.1, h.2.2.1, fun v hv => ⟨(h.2.2.2 v hv).1, (h.2.2.2 v hv).2.1, (h.2.2.2 v hv).2.2.1, (h.2.2.2 v hv).2.2.2.1⟩⟩
theorem wOk.drop : ∀ (k : Nat) {os : List mO}, wOk os → wOk (os.drop k)
  | 0, os, h => h
  | k + 1, [], h => h
  | k + 1, o :: os, h => wOk.drop k h.1
/-- the way of the version v: its k-th version (0: the first behind the root) -/
def wG (D : Dt) (v k : Nat) (x : Int32) : Prop := ∃ u, u < D.1 ∧ x = nI u ∧ D.2.2.2.2 u = (D.2.2.2.2 v).drop ((D.2.2.2.2 v).length - 1 - k)
theorem wfD.up {D : Dt} (w : wfD D) {u : Nat} (hu : u < D.1) (hl : 0 < (D.2.2.2.2 u).length) : 0 < u ∧ parI D u = nI (D.2.2.2.1 u) ∧ D.2.2.2.1 u < D.1 ∧ D.2.2.2.2 (D.2.2.2.1 u) = (D.2.2.2.2 u).drop 1 := by
  have h0 : 0 < u := by
    rcases Nat.eq_zero_or_pos u with e | e
    · rw [e, w.2.2.2.2.1] at hl
      exact absurd hl (by simp)
    · exact e
  obtain ⟨a, ⟨o, e⟩, -⟩ := w.2.2.2.2.2 u h0 hu
  exact ⟨h0, if_neg (by omega), by omega, by rw [e]; rfl⟩
theorem dr_len {v : List mO} {k : Nat} (hk : k < v.length) : (v.drop (v.length - 1 - k)).length = k + 1 := by rw [List.length_drop]; omega
theorem k_X7_laysWay_7 : gCl wsX7_laysWay 7 RX7 TX7 26 := ⟨by decide +kernel, rfl⟩
theorem m_X7_laysWay_f22 : Cond.fieldLink RX7 22 "SteadyQueuesModel" "way" "[I" ∈ wsX7_laysWay := by decide +kernel
theorem hv_X7_of : yX7_of.cls = RX7 ∧ yX7_of.cls ≠ "java/lang/invoke/MethodHandle" ∧ yX7_of.cls ≠ "java/lang/invoke/VarHandle" ∧ (parseMethodDescriptor yX7_of.desc).map (fun d => d.parameters.length) = some 2 := by decide +kernel
set_option maxHeartbeats 4000000 in
set_option maxRecDepth 100000 in
theorem lp_X7_laysWay {G : gG} {z0 : Nat} {X : gX} {l : Launch} {post : Option Value → gH → Prop} {mc ms cells slots k u v : Nat} {h : gH} {m rows asd now vals many way told oth lst text : Nat} {th und fl rl kd ok st fed len spot fa fat num frm may : Int32} {R W : Nat → Int32} {D : Dt} (F : gF G z0 X cX7_laysWay 4 RX7 wsX7_laysWay none "laysWay" 2 43 mc ms) (E : gE G z0 X post mc ms) (hcc : cells ≤ mc) (hss : slots ≤ ms) (hm : h m = some (.inr (7, [.int th, .ref rows, .ref asd, .int (nI now), .int und, .ref vals, .ref many, .int fl, .int rl, .int kd, .int ok, .int st, .ref way, .int (nI ((D.2.2.2.2 v).length)), .ref told, .ref oth, .ref lst, .ref text, .int fed, .int len, .int spot, .int fa, .int fat, .int num, .int frm, .int may]))) (hrows : h rows = some (oI G 2970 R)) (hnow : now < 9) (hway : h way = some (oI G 64 W)) (w9 : wfD D) (hS : slP R (330 * now) D) (hlen : (D.2.2.2.2 v).length < 64) (hk : k < (D.2.2.2.2 v).length) (hu : u < D.1) (hu2 : D.2.2.2.2 u = (D.2.2.2.2 v).drop ((D.2.2.2.2 v).length - 1 - k)) (hp : ∀ (W' : Nat → Int32) (h' : gH), h' way = some (oI G 64 W') → (∀ j, j ≤ k → wG D v j (W' j)) → (∀ j, k < j → W' j = W j) → gfr [way] h h' → post none h') : gV G z0 X cells slots h 19 [(3, .int (nI k)), (2, .int (nI u)), (1, .int (nI v)), (0, .ref m)] [] := by
  induction k generalizing u W h with
  | zero =>
    have hlu : (D.2.2.2.2 u).length = 1 := by rw [hu2, dr_len hk]
    have hup := w9.up hu (by omega)
    have hu64 : u < 64 := by have := w9.2.1; omega
    have hru := (hS.2.2.2 u hu).1
    rw [hup.2.1] at hru
    refine v_iload_n (pc' := 20) F dX7_laysWay_19 rfl (j := 0) rfl rfl ?_
    refine w_if_lt (tgt := 43) (pc' := 23) F (by omega) dX7_laysWay_20 (by decide) rfl (fun c0 => absurd c0 (by omega)) (fun _ => ?_)
    refine v_aload_n (pc' := 24) F dX7_laysWay_23 rfl (j := 3) rfl rfl ?_
    refine v_getf (pc' := 27) (v := .ref way) F k_X7_laysWay_7 hm 12 (by decide) m_X7_laysWay_f22 rfl dX7_laysWay_24 rfl ?_
    refine v_iload_n (pc' := 28) F dX7_laysWay_27 rfl (j := 0) rfl rfl ?_
    refine v_iload_n (pc' := 29) F dX7_laysWay_28 rfl (j := 1) rfl rfl ?_
    refine w_iast (pc' := 30) F hway (by omega) (by omega) dX7_laysWay_29 rfl (fun h1 a2 f3 => ?_)
    refine v_aload_n (pc' := 31) F dX7_laysWay_30 rfl (j := 3) rfl rfl ?_
    refine v_iload_n (pc' := 32) F dX7_laysWay_31 rfl (j := 1) rfl rfl ?_
    refine v_iconst (pc' := 33) (v := nI 0) F dX7_laysWay_32 (by decide) rfl ?_
    have g4 := f3 _ _ (gnc (g_neA hm hway) gn0) hm
    have g5 := f3 _ _ (gnc (g_neL hrows hway (by decide)) gn0) hrows
    refine v_callV (pc' := 36) (rt := (some .int)) (mcc := 0) (msc := 0) (As := [.int (nI u), .int (nI 0)]) (st := []) F (fun l => c_X7_of G z0 l (v := u) (w := 0) g4 g5 hnow hu64 (by omega)) gX7_laysWay_X7_of rfl hv_X7_of (by decide) (by decide) g4 rfl rfl rfl (Nat.le_of_ble_eq_true rfl) (by omega) (by omega) dX7_laysWay_33 rfl (fun v6 h1 hq => ?_)
    rw [hru] at hq; obtain ⟨rfl, rfl⟩ := hq
    refine v_istore_n (pc' := 37) (i := 2) (L' := [(2, .int (nI (D.2.2.2.1 u))), (3, .int (nI 0)), (1, .int (nI v)), (0, .ref m)]) F dX7_laysWay_36 rfl (by decide) rfl rfl ?_
    refine v_iinc (pc' := 40) (j := 1) (x := nI 0) (v := (-1)) (L' := [(3, .int (-1)), (2, .int (nI (D.2.2.2.1 u))), (1, .int (nI v)), (0, .ref m)]) F dX7_laysWay_37 rfl (by decide) (by decide) rfl rfl ?_
    refine v_goto (tgt := 19) F dX7_laysWay_40 (by decide) ?_
    refine v_iload_n (pc' := 20) F dX7_laysWay_19 rfl (j := 0) rfl rfl ?_
    refine v_if_lt (tgt := 43) (pc' := 23) F dX7_laysWay_20 (by decide) rfl (fun _ => ?_) (fun c0 => absurd (by decide) c0)
    have fr7 : gfr [way] h h1 := f3
    have hj0 : ∀ j, j ≤ 0 → wG D v j (upd W 0 (nI u) j) := fun j hj => by
      obtain rfl : j = 0 := by omega
      rw [upd_eq]
      exact ⟨u, hu, rfl, hu2⟩
    exact v_vret F E (by omega) (by omega)  dX7_laysWay_43 (hp _ _ a2 hj0 (fun j hj => upd_ne (by omega)) fr7)
  | succ k ih =>
    have hlu : (D.2.2.2.2 u).length = k + 1 + 1 := by rw [hu2, dr_len hk]
    have hup := w9.up hu (by omega)
    have hu64 : u < 64 := by have := w9.2.1; omega
    have hru := (hS.2.2.2 u hu).1
    rw [hup.2.1] at hru
    refine v_iload_n (pc' := 20) F dX7_laysWay_19 rfl (j := 0) rfl rfl ?_
    refine w_if_lt (tgt := 43) (pc' := 23) F (by omega) dX7_laysWay_20 (by decide) rfl (fun c0 => absurd c0 (by omega)) (fun _ => ?_)
    refine v_aload_n (pc' := 24) F dX7_laysWay_23 rfl (j := 3) rfl rfl ?_
    refine v_getf (pc' := 27) (v := .ref way) F k_X7_laysWay_7 hm 12 (by decide) m_X7_laysWay_f22 rfl dX7_laysWay_24 rfl ?_
    refine v_iload_n (pc' := 28) F dX7_laysWay_27 rfl (j := 0) rfl rfl ?_
    refine v_iload_n (pc' := 29) F dX7_laysWay_28 rfl (j := 1) rfl rfl ?_
    refine w_iast (pc' := 30) F hway (by omega) (by omega) dX7_laysWay_29 rfl (fun h1 a2 f3 => ?_)
    refine v_aload_n (pc' := 31) F dX7_laysWay_30 rfl (j := 3) rfl rfl ?_
    refine v_iload_n (pc' := 32) F dX7_laysWay_31 rfl (j := 1) rfl rfl ?_
    refine v_iconst (pc' := 33) (v := nI 0) F dX7_laysWay_32 (by decide) rfl ?_
    have g4 := f3 _ _ (gnc (g_neA hm hway) gn0) hm
    have g5 := f3 _ _ (gnc (g_neL hrows hway (by decide)) gn0) hrows
    refine v_callV (pc' := 36) (rt := (some .int)) (mcc := 0) (msc := 0) (As := [.int (nI u), .int (nI 0)]) (st := []) F (fun l => c_X7_of G z0 l (v := u) (w := 0) g4 g5 hnow hu64 (by omega)) gX7_laysWay_X7_of rfl hv_X7_of (by decide) (by decide) g4 rfl rfl rfl (Nat.le_of_ble_eq_true rfl) (by omega) (by omega) dX7_laysWay_33 rfl (fun v6 h1 hq => ?_)
    rw [hru] at hq; obtain ⟨rfl, rfl⟩ := hq
    refine v_istore_n (pc' := 37) (i := 2) (L' := [(2, .int (nI (D.2.2.2.1 u))), (3, .int (nI (k + 1))), (1, .int (nI v)), (0, .ref m)]) F dX7_laysWay_36 rfl (by decide) rfl rfl ?_
    refine v_iinc (pc' := 40) (j := 1) (x := nI (k + 1)) (v := nI k) (L' := [(3, .int (nI k)), (2, .int (nI (D.2.2.2.1 u))), (1, .int (nI v)), (0, .ref m)]) F dX7_laysWay_37 rfl (g_dec (by omega)) (by decide) rfl rfl ?_
    refine v_goto (tgt := 19) F dX7_laysWay_40 (by decide) ?_
    have fr7 : gfr [way] h h1 := f3
    refine v_sub (L' := [(3, .int (nI k)), (2, .int (nI (D.2.2.2.1 u))), (1, .int (nI v)), (0, .ref m)]) [0, 1, 2, 3] rfl ?_
    refine ih (W := upd W (k + 1) (nI u)) (u := D.2.2.2.1 u) g4 g5 a2 (by omega) hup.2.2.1 (by rw [hup.2.2.2, hu2, List.drop_drop]; congr 1; omega) (fun W9 h9 b1 b2 b3 b4 => hp W9 h9 b1 (fun j hj => ?_) (fun j hj => ?_) (gfr.t fr7 b4))
    · by_cases hjk : j ≤ k
      · exact b2 j hjk
      · obtain rfl : j = k + 1 := by omega
        rw [b3 _ (by omega), upd_eq]; exact ⟨u, hu, rfl, hu2⟩
    · rw [b3 j (by omega), upd_ne (by omega)]
theorem m_X7_laysWay_f109 : Cond.fieldLink RX7 109 "SteadyQueuesModel" "wayMany" "I" ∈ wsX7_laysWay := by decide +kernel
set_option maxHeartbeats 4000000 in
set_option maxRecDepth 100000 in
theorem c_X7_laysWay (G : gG) (z0 : Nat) (l : Launch) {h : gH} {m rows asd now vals many way told oth lst text : Nat} {th und fl rl kd ok st wm fed len spot fa fat num frm may : Int32} {R W : Nat → Int32} {D : Dt} {v : Nat} (hm : h m = some (.inr (7, [.int th, .ref rows, .ref asd, .int (nI now), .int und, .ref vals, .ref many, .int fl, .int rl, .int kd, .int ok, .int st, .ref way, .int wm, .ref told, .ref oth, .ref lst, .ref text, .int fed, .int len, .int spot, .int fa, .int fat, .int num, .int frm, .int may]))) (hrows : h rows = some (oI G 2970 R)) (hnow : now < 9) (hway : h way = some (oI G 64 W)) (w9 : wfD D) (hS : slP R (330 * now) D) (hv : v < D.1) : gC G z0 l yX7_laysWay wsX7_laysWay 2 43 [.ref m, .int (nI v)] h (fun o h' => o = none ∧ h' m = some (.inr (7, [.int th, .ref rows, .ref asd, .int (nI now), .int und, .ref vals, .ref many, .int fl, .int rl, .int kd, .int ok, .int st, .ref way, .int (nI ((D.2.2.2.2 v).length)), .ref told, .ref oth, .ref lst, .ref text, .int fed, .int len, .int spot, .int fa, .int fat, .int num, .int frm, .int may])) ∧ ∃ W', h' way = some (oI G 64 W') ∧ (∀ j, j < (D.2.2.2.2 v).length → wG D v j (W' j)) ∧ gfr [m, way] h h') 0 0 := by
  have hlen := (w9.os hv).2
  have hv64 : v < 64 := by have := w9.2.1; omega
  have hrv := (hS.2.2.2 v hv).2.2.2
  refine gC_of (cc := cX7_laysWay) (nL := 4) (ret := none) (by decide) rfl (Nat.le_of_ble_eq_true rfl) ?_
  intro X F E _
  change gF G z0 X cX7_laysWay 4 RX7 wsX7_laysWay none "laysWay" 2 43 _ _ at F
  show gV G z0 X 0 0 h 0 [(0, .ref m), (1, .int (nI v))] []
  refine v_aload_n (pc' := 1) F dX7_laysWay_0 rfl (j := 0) rfl rfl ?_
  refine v_aload_n (pc' := 2) F dX7_laysWay_1 rfl (j := 0) rfl rfl ?_
  refine v_iload_n (pc' := 3) F dX7_laysWay_2 rfl (j := 1) rfl rfl ?_
  refine v_iconst (pc' := 4) (v := nI 3) F dX7_laysWay_3 (by decide) rfl ?_
  refine v_callV (pc' := 7) (rt := (some .int)) (mcc := 0) (msc := 0) (As := [.int (nI v), .int (nI 3)]) (st := [.ref m]) F (fun l => c_X7_of G z0 l (v := v) (w := 3) hm hrows hnow hv64 (by omega)) gX7_laysWay_X7_of rfl hv_X7_of (by decide) (by decide) hm rfl rfl rfl (Nat.le_of_ble_eq_true rfl) (by omega) (by omega) dX7_laysWay_4 rfl (fun v1 h hq => ?_)
  rw [hrv] at hq; obtain ⟨rfl, rfl⟩ := hq
  refine w_putf (pc' := 10) F k_X7_laysWay_7 tyX7_ok nmX7 hm 13 (by decide) m_X7_laysWay_f109 rfl  rfl rfl (show 13 < 26 by decide) [.int th, .ref rows, .ref asd, .int (nI now), .int und, .ref vals, .ref many, .int fl, .int rl, .int kd, .int ok, .int st, .ref way, .int (nI ((D.2.2.2.2 v).length)), .ref told, .ref oth, .ref lst, .ref text, .int fed, .int len, .int spot, .int fa, .int fat, .int num, .int frm, .int may] rfl dX7_laysWay_7 rfl (fun h2 a3 f4 => ?_)
  refine v_iload_n (pc' := 11) F dX7_laysWay_10 rfl (j := 1) rfl rfl ?_
  refine v_istore_n (pc' := 12) (i := 2) (L' := [(2, .int (nI v)), (0, .ref m), (1, .int (nI v))]) F dX7_laysWay_11 rfl (by decide) rfl rfl ?_
  refine v_aload_n (pc' := 13) F dX7_laysWay_12 rfl (j := 1) rfl rfl ?_
  refine v_getf (pc' := 16) (v := .int (nI ((D.2.2.2.2 v).length))) F k_X7_laysWay_7 a3 13 (by decide) m_X7_laysWay_f109 rfl dX7_laysWay_13 rfl ?_
  by_cases hz : (D.2.2.2.2 v).length = 0
  · skip
    refine v_iconst (pc' := 17) (v := nI 1) F dX7_laysWay_16 (by decide) rfl ?_
    refine v_isub (pc' := 18) (v := (-1)) F dX7_laysWay_17 (by rw [hz]; decide) rfl ?_
    refine v_istore_n (pc' := 19) (i := 3) (L' := [(3, .int (-1)), (2, .int (nI v)), (0, .ref m), (1, .int (nI v))]) F dX7_laysWay_18 rfl (by decide) rfl rfl ?_
    refine v_iload_n (pc' := 20) F dX7_laysWay_19 rfl (j := 0) rfl rfl ?_
    refine v_if_lt (tgt := 43) (pc' := 23) F dX7_laysWay_20 (by decide) rfl (fun _ => ?_) (fun c0 => absurd (by decide) c0)
    have fr5 : gfr [m, way] h h2 := (gfr.mono f4 (by intro q9 z9 m9; apply z9; simp only [List.mem_cons, List.not_mem_nil, or_false] at m9 ⊢; omega))
    have g6 := f4 _ _ (gnc (Ne.symm (g_neA hm hway)) gn0) hway
    exact v_vret F E (by omega) (by omega)  dX7_laysWay_43 ⟨rfl, a3, _, g6, fun j hj => absurd hj (by omega), fr5⟩
  · skip
    refine v_iconst (pc' := 17) (v := nI 1) F dX7_laysWay_16 (by decide) rfl ?_
    refine v_isub (pc' := 18) (v := nI ((D.2.2.2.2 v).length - 1)) F dX7_laysWay_17 (g_subn (by omega) (by omega)) rfl ?_
    refine v_istore_n (pc' := 19) (i := 3) (L' := [(3, .int (nI ((D.2.2.2.2 v).length - 1))), (2, .int (nI v)), (0, .ref m), (1, .int (nI v))]) F dX7_laysWay_18 rfl (by decide) rfl rfl ?_
    refine v_sub (L' := [(3, .int (nI ((D.2.2.2.2 v).length - 1))), (2, .int (nI v)), (1, .int (nI v)), (0, .ref m)]) [0, 1, 3, 2] rfl ?_
    have fr7 : gfr [m, way] h h2 := (gfr.mono f4 (by intro q9 z9 m9; apply z9; simp only [List.mem_cons, List.not_mem_nil, or_false] at m9 ⊢; omega))
    have g8 := f4 _ _ (gnc (Ne.symm (g_neA hm hrows)) gn0) hrows
    have g9 := f4 _ _ (gnc (Ne.symm (g_neA hm hway)) gn0) hway
    exact lp_X7_laysWay (l := l) (k := (D.2.2.2.2 v).length - 1) (u := v) F E (by omega) (by omega) a3 g8 hnow g9 w9 hS hlen (by omega) hv (by rw [Nat.sub_self, List.drop_zero]) (fun W9 h9 b1 b2 b3 b4 => ⟨rfl, b4 _ _ (gnc (g_neA a3 g9) gn0) a3, W9, b1, fun j hj => b2 j (by omega), gfr.t fr7 (gfr.mono b4 (by intro q9 z9 m9; apply z9; simp only [List.mem_cons, List.not_mem_nil, or_false] at m9 ⊢; omega))⟩)

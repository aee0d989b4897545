/-! THE READER'S TOKENS -/
def sk (t : Nat → Nat) (len a : Nat) : Nat := eS t (len - a) a
def kdT (t : Nat → Nat) (len s : Nat) : Nat := if len ≤ s then 0 else if 48 ≤ t s ∧ t s ≤ 57 then 2 else if 97 ≤ t s ∧ t s ≤ 122 then wkd t s (eL t (len - s) s) else if t s = 59 then 3 else 1
def enT (t : Nat → Nat) (len s : Nat) : Nat := if len ≤ s then s else if 48 ≤ t s ∧ t s ≤ 57 then eD t (len - s) s else if 97 ≤ t s ∧ t s ≤ 122 then eL t (len - s) s else s + 1
def nuT (t : Nat → Nat) (len s nu : Nat) : Nat := if len ≤ s then nu else if 48 ≤ t s ∧ t s ≤ 57 then min 1000 (vD t (len - s) s 0) else nu
theorem enT_b (t : Nat → Nat) {len s : Nat} (h : s ≤ len) : s ≤ enT t len s ∧ enT t len s ≤ len := by
  have h1 := eD_b t (len - s) s
  have h2 := eL_b t (len - s) s
  unfold enT
  split
  · omega
  · split
    · omega
    · split <;> omega
theorem sk_b (t : Nat → Nat) {len a : Nat} (h : a ≤ len) : a ≤ sk t len a ∧ sk t len a ≤ len := by
  have h1 := eS_b t (len - a) a
  unfold sk
  omega
theorem nuT_b (t : Nat → Nat) (len s : Nat) {nu : Nat} (h : nu ≤ 1000) : nuT t len s nu ≤ 1000 := by
  unfold nuT
  split
  · exact h
  · split
    · omega
    · exact h
theorem wkd_b (t : Nat → Nat) (s e : Nat) : wkd t s e < 8 := by
  unfold wkd
  repeat' split
  all_goals omega
theorem kdT_b (t : Nat → Nat) (len s : Nat) : kdT t len s < 8 := by
  unfold kdT
  have := wkd_b t s (eL t (len - s) s)
  repeat' split
  all_goals omega
theorem k_X3_readWord_3 : gCl wsX3_readWord 3 RX3 TX3 10 := ⟨by decide +kernel, rfl⟩
theorem m_X3_readWord_f29 : Cond.fieldLink RX3 29 "SteadyQueues$SetupReader" "at" "I" ∈ wsX3_readWord := by decide +kernel
theorem m_X3_readWord_f19 : Cond.fieldLink RX3 19 "SteadyQueues$SetupReader" "length" "I" ∈ wsX3_readWord := by decide +kernel
theorem m_X3_readWord_f15 : Cond.fieldLink RX3 15 "SteadyQueues$SetupReader" "text" "[B" ∈ wsX3_readWord := by decide +kernel
theorem hd_X3_isLetter : yX3_isLetter.cls ≠ "java/lang/invoke/MethodHandle" ∧ yX3_isLetter.cls ≠ "java/lang/invoke/VarHandle" ∧ (parseMethodDescriptor yX3_isLetter.desc).map (fun d => d.parameters.length) = some 1 := by decide +kernel
set_option maxHeartbeats 4000000 in
set_option maxRecDepth 100000 in
theorem lp_X3_readWord {G : gG} {z0 : Nat} {X : gX} {mc ms cells slots m a s kd nu : Nat} {h : gH} {rd buf len b may : Nat} {er off : Int32} {t : Nat → Nat} {f : Nat → Int32} (F : gF G z0 X cX3_readWord 1 RX3 wsX3_readWord none "readWord" 5 107 mc ms) (hcc : cells ≤ mc) (hss : slots ≤ ms) (hlen : len ≤ 500) (hmay : may ≤ 1) (hbuf : h buf = some (oB G 500 f)) (ht : ∀ j, j < len → f j = sb_b (t j) ∧ t j < 256) (hr : h rd = some (.inr (3, [.int off, .ref buf, .int (nI len), .ref b, .int er, .int (nI a), .int (nI s), .int (nI kd), .int (nI nu), .int (nI may)]))) (ha : a + m = len) (K : ∀ h', h' rd = some (.inr (3, [.int off, .ref buf, .int (nI len), .ref b, .int er, .int (nI (eL t m a)), .int (nI s), .int (nI kd), .int (nI nu), .int (nI may)])) → h' buf = some (oB G 500 f) → gfr [rd] h h' → gV G z0 X cells slots h' 39 [(0, .ref rd)] []) : gV G z0 X cells slots h 0 [(0, .ref rd)] [] := by
  induction m generalizing a h with
  | zero =>
    refine v_aload_n (pc' := 1) F dX3_readWord_0 rfl (j := 0) rfl rfl ?_
    refine v_getf (pc' := 4) (v := .int (nI a)) F k_X3_readWord_3 hr 5 (by decide) m_X3_readWord_f29 rfl dX3_readWord_1 rfl ?_
    refine v_aload_n (pc' := 5) F dX3_readWord_4 rfl (j := 0) rfl rfl ?_
    refine v_getf (pc' := 8) (v := .int (nI len)) F k_X3_readWord_3 hr 2 (by decide) m_X3_readWord_f19 rfl dX3_readWord_5 rfl ?_
    refine w_icmp_ge (tgt := 39) (pc' := 11) F (by omega) (by omega) dX3_readWord_8 (by decide) rfl (fun _ => ?_) (fun c0 => absurd c0 (by omega))
    exact K h hr hbuf gfr.rf
  | succ m ih =>
    have h256 := (ht a (by omega)).2
    refine v_aload_n (pc' := 1) F dX3_readWord_0 rfl (j := 0) rfl rfl ?_
    refine v_getf (pc' := 4) (v := .int (nI a)) F k_X3_readWord_3 hr 5 (by decide) m_X3_readWord_f29 rfl dX3_readWord_1 rfl ?_
    refine v_aload_n (pc' := 5) F dX3_readWord_4 rfl (j := 0) rfl rfl ?_
    refine v_getf (pc' := 8) (v := .int (nI len)) F k_X3_readWord_3 hr 2 (by decide) m_X3_readWord_f19 rfl dX3_readWord_5 rfl ?_
    refine w_icmp_ge (tgt := 39) (pc' := 11) F (by omega) (by omega) dX3_readWord_8 (by decide) rfl (fun c0 => absurd c0 (by omega)) (fun _ => ?_)
    refine v_aload_n (pc' := 12) F dX3_readWord_11 rfl (j := 0) rfl rfl ?_
    refine v_getf (pc' := 15) (v := .ref buf) F k_X3_readWord_3 hr 1 (by decide) m_X3_readWord_f15 rfl dX3_readWord_12 rfl ?_
    refine v_aload_n (pc' := 16) F dX3_readWord_15 rfl (j := 0) rfl rfl ?_
    refine v_getf (pc' := 19) (v := .int (nI a)) F k_X3_readWord_3 hr 5 (by decide) m_X3_readWord_f29 rfl dX3_readWord_16 rfl ?_
    refine w_bald (pc' := 20) (v := sb_b (t a)) F hbuf (by omega) (by omega) (ht a (by omega)).1 dX3_readWord_19 rfl ?_
    refine v_callS (pc' := 23) (rt := (some .boolean)) (mcc := 0) (msc := 0) (As := [.int (sb_b (t a))]) (st := []) F (fun l => c_X3_isLetter G z0 l h256) gX3_readWord_X3_isLetter rfl hd_X3_isLetter (by decide) (by decide) rfl rfl (Nat.le_of_ble_eq_true rfl) (by omega) (by omega) dX3_readWord_20 rfl (fun v1 h hq => ?_)
    obtain ⟨rfl, rfl⟩ := hq
    by_cases hd : 97 ≤ t a ∧ t a ≤ 122
    · rw [if_pos hd]
      refine w_if_eq (tgt := 39) (pc' := 26) F (by omega) dX3_readWord_23 (by decide) rfl (fun c0 => absurd c0 (by omega)) (fun _ => ?_)
      refine v_aload_n (pc' := 27) F dX3_readWord_26 rfl (j := 0) rfl rfl ?_
      refine v_dup (pc' := 28) F dX3_readWord_27 rfl rfl ?_
      refine v_getf (pc' := 31) (v := .int (nI a)) F k_X3_readWord_3 hr 5 (by decide) m_X3_readWord_f29 rfl dX3_readWord_28 rfl ?_
      refine v_iconst (pc' := 32) (v := nI 1) F dX3_readWord_31 (by decide) rfl ?_
      refine v_iadd (pc' := 33) (v := nI (a + 1)) F dX3_readWord_32 (nI_add a 1) rfl ?_
      refine w_putf (pc' := 36) F k_X3_readWord_3 tyX3_ok nmX3 hr 5 (by decide) m_X3_readWord_f29 rfl  rfl rfl (show 5 < 10 by decide) [.int off, .ref buf, .int (nI len), .ref b, .int er, .int (nI (a + 1)), .int (nI s), .int (nI kd), .int (nI nu), .int (nI may)] rfl dX3_readWord_33 rfl (fun h2 a3 f4 => ?_)
      refine v_goto (tgt := 0) F dX3_readWord_36 (by decide) ?_
      have fr5 : gfr [rd] h h2 := f4
      have g6 := f4 _ _ (gnc (Ne.symm (g_neA hr hbuf)) gn0) hbuf
      exact ih (a := a + 1) g6 a3 (by omega) (fun h9 k9 b9 f9 => K h9 (by unfold eL; rw [if_pos hd]; exact k9) b9 (gfr.t fr5 f9))
    · rw [if_neg hd]
      refine w_if_eq (tgt := 39) (pc' := 26) F (by omega) dX3_readWord_23 (by decide) rfl (fun _ => ?_) (fun c0 => absurd rfl c0)
      exact K h (by unfold eL; rw [if_neg hd]; exact hr) hbuf gfr.rf
theorem hv_X3_isWord : yX3_isWord.cls = RX3 ∧ yX3_isWord.cls ≠ "java/lang/invoke/MethodHandle" ∧ yX3_isWord.cls ≠ "java/lang/invoke/VarHandle" ∧ (parseMethodDescriptor yX3_isWord.desc).map (fun d => d.parameters.length) = some 1 := by decide +kernel
theorem m_X3_readWord_f35 : Cond.fieldLink RX3 35 "SteadyQueues$SetupReader" "kind" "I" ∈ wsX3_readWord := by decide +kernel
set_option maxHeartbeats 4000000 in
set_option maxRecDepth 100000 in
theorem c_X3_readWord (G : gG) (z0 : Nat) (l : Launch) {h : gH} {rd buf len b may : Nat} {er off : Int32} {t : Nat → Nat} {f : Nat → Int32} {s kd nu : Nat} (hlen : len ≤ 500) (hmay : may ≤ 1) (hbuf : h buf = some (oB G 500 f)) (ht : ∀ j, j < len → f j = sb_b (t j) ∧ t j < 256) (hr : h rd = some (.inr (3, [.int off, .ref buf, .int (nI len), .ref b, .int er, .int (nI s), .int (nI s), .int (nI kd), .int (nI nu), .int (nI may)]))) (hal : s ≤ len) : gC G z0 l yX3_readWord wsX3_readWord 5 107 [.ref rd] h (fun v h' => v = none ∧ h' rd = some (.inr (3, [.int off, .ref buf, .int (nI len), .ref b, .int er, .int (nI (eL t (len - s) s)), .int (nI s), .int (nI (wkd t s (eL t (len - s) s))), .int (nI nu), .int (nI may)])) ∧ gfr [rd] h h') 0 0 := by
  have hb9 := eL_b t (len - s) s
  refine gC_of (cc := cX3_readWord) (nL := 1) (ret := none) (by decide) rfl (Nat.le_of_ble_eq_true rfl) ?_
  intro X F E _
  change gF G z0 X cX3_readWord 1 RX3 wsX3_readWord none "readWord" 5 107 _ _ at F
  show gV G z0 X 0 0 h 0 [(0, .ref rd)] []
  refine lp_X3_readWord (m := len - s) F (by omega) (by omega) hlen hmay hbuf ht hr (by omega) (fun hA hr1 hbuf1 frA => ?_)
  refine v_aload_n (pc' := 40) F dX3_readWord_39 rfl (j := 0) rfl rfl ?_
  refine v_ldcS (pc' := 42) (i := 0) (tx := "queue") F (by decide) dX3_readWord_40 rfl ?_
  refine v_callV (pc' := 45) (rt := (some .boolean)) (mcc := 0) (msc := 0) (As := [.ref (G.2.2 0)]) (st := []) F (fun l => c_X3_isWord G z0 l (i := 0) (by omega) hlen hmay hbuf1 ht hr1 (by omega) (by omega) (fun j9 a9 b9 => eL_in t _ _ j9 a9 b9)) gX3_readWord_X3_isWord rfl hv_X3_isWord (by decide) (by decide) hr1 rfl rfl rfl (Nat.le_of_ble_eq_true rfl) (by omega) (by omega) dX3_readWord_42 rfl (fun v1 hA hq => ?_)
  obtain ⟨rfl, rfl⟩ := hq
  by_cases w0 : isW t 0 s (eL t (len - s) s) = true
  · rw [if_pos w0]
    refine w_if_eq (tgt := 56) (pc' := 48) F (by omega) dX3_readWord_45 (by decide) rfl (fun c0 => absurd c0 (by omega)) (fun _ => ?_)
    refine v_aload_n (pc' := 49) F dX3_readWord_48 rfl (j := 0) rfl rfl ?_
    refine v_iconst (pc' := 50) (v := nI 4) F dX3_readWord_49 (by decide) rfl ?_
    refine w_putf (pc' := 53) F k_X3_readWord_3 tyX3_ok nmX3 hr1 7 (by decide) m_X3_readWord_f35 rfl  rfl rfl (show 7 < 10 by decide) [.int off, .ref buf, .int (nI len), .ref b, .int er, .int (nI (eL t (len - s) s)), .int (nI s), .int (nI 4), .int (nI nu), .int (nI may)] rfl dX3_readWord_50 rfl (fun h2 a3 f4 => ?_)
    refine v_goto (tgt := 110) F dX3_readWord_53 (by decide) ?_
    have fr5 : gfr [rd] h h2 := (gfr.t frA f4)
    exact v_vret F E (by omega) (by omega)  dX3_readWord_110 ⟨rfl, by unfold wkd; rw [if_pos w0]; exact a3, fr5⟩
  · rw [if_neg w0]
    refine w_if_eq (tgt := 56) (pc' := 48) F (by omega) dX3_readWord_45 (by decide) rfl (fun _ => ?_) (fun c0 => absurd rfl c0)
    refine v_aload_n (pc' := 57) F dX3_readWord_56 rfl (j := 0) rfl rfl ?_
    refine v_ldcS (pc' := 59) (i := 1) (tx := "push") F (by decide) dX3_readWord_57 rfl ?_
    refine v_callV (pc' := 62) (rt := (some .boolean)) (mcc := 0) (msc := 0) (As := [.ref (G.2.2 1)]) (st := []) F (fun l => c_X3_isWord G z0 l (i := 1) (by omega) hlen hmay hbuf1 ht hr1 (by omega) (by omega) (fun j9 a9 b9 => eL_in t _ _ j9 a9 b9)) gX3_readWord_X3_isWord rfl hv_X3_isWord (by decide) (by decide) hr1 rfl rfl rfl (Nat.le_of_ble_eq_true rfl) (by omega) (by omega) dX3_readWord_59 rfl (fun v6 hA hq => ?_)
    obtain ⟨rfl, rfl⟩ := hq
    by_cases w1 : isW t 1 s (eL t (len - s) s) = true
    · rw [if_pos w1]
      refine w_if_eq (tgt := 73) (pc' := 65) F (by omega) dX3_readWord_62 (by decide) rfl (fun c0 => absurd c0 (by omega)) (fun _ => ?_)
      refine v_aload_n (pc' := 66) F dX3_readWord_65 rfl (j := 0) rfl rfl ?_
      refine v_iconst (pc' := 67) (v := nI 5) F dX3_readWord_66 (by decide) rfl ?_
      refine w_putf (pc' := 70) F k_X3_readWord_3 tyX3_ok nmX3 hr1 7 (by decide) m_X3_readWord_f35 rfl  rfl rfl (show 7 < 10 by decide) [.int off, .ref buf, .int (nI len), .ref b, .int er, .int (nI (eL t (len - s) s)), .int (nI s), .int (nI 5), .int (nI nu), .int (nI may)] rfl dX3_readWord_67 rfl (fun h7 a8 f9 => ?_)
      refine v_goto (tgt := 110) F dX3_readWord_70 (by decide) ?_
      have fr10 : gfr [rd] h h7 := (gfr.t frA f9)
      exact v_vret F E (by omega) (by omega)  dX3_readWord_110 ⟨rfl, by unfold wkd; rw [if_neg w0]; rw [if_pos w1]; exact a8, fr10⟩
    · rw [if_neg w1]
      refine w_if_eq (tgt := 73) (pc' := 65) F (by omega) dX3_readWord_62 (by decide) rfl (fun _ => ?_) (fun c0 => absurd rfl c0)
      refine v_aload_n (pc' := 74) F dX3_readWord_73 rfl (j := 0) rfl rfl ?_
      refine v_ldcS (pc' := 76) (i := 2) (tx := "pop") F (by decide) dX3_readWord_74 rfl ?_
      refine v_callV (pc' := 79) (rt := (some .boolean)) (mcc := 0) (msc := 0) (As := [.ref (G.2.2 2)]) (st := []) F (fun l => c_X3_isWord G z0 l (i := 2) (by omega) hlen hmay hbuf1 ht hr1 (by omega) (by omega) (fun j9 a9 b9 => eL_in t _ _ j9 a9 b9)) gX3_readWord_X3_isWord rfl hv_X3_isWord (by decide) (by decide) hr1 rfl rfl rfl (Nat.le_of_ble_eq_true rfl) (by omega) (by omega) dX3_readWord_76 rfl (fun v11 hA hq => ?_)
      obtain ⟨rfl, rfl⟩ := hq
      by_cases w2 : isW t 2 s (eL t (len - s) s) = true
      · rw [if_pos w2]
        refine w_if_eq (tgt := 91) (pc' := 82) F (by omega) dX3_readWord_79 (by decide) rfl (fun c0 => absurd c0 (by omega)) (fun _ => ?_)
        refine v_aload_n (pc' := 83) F dX3_readWord_82 rfl (j := 0) rfl rfl ?_
        refine v_bipush (pc' := 85) (v := nI 6) F dX3_readWord_83 (by decide) rfl ?_
        refine w_putf (pc' := 88) F k_X3_readWord_3 tyX3_ok nmX3 hr1 7 (by decide) m_X3_readWord_f35 rfl  rfl rfl (show 7 < 10 by decide) [.int off, .ref buf, .int (nI len), .ref b, .int er, .int (nI (eL t (len - s) s)), .int (nI s), .int (nI 6), .int (nI nu), .int (nI may)] rfl dX3_readWord_85 rfl (fun h12 a13 f14 => ?_)
        refine v_goto (tgt := 110) F dX3_readWord_88 (by decide) ?_
        have fr15 : gfr [rd] h h12 := (gfr.t frA f14)
        exact v_vret F E (by omega) (by omega)  dX3_readWord_110 ⟨rfl, by unfold wkd; rw [if_neg w0]; rw [if_neg w1]; rw [if_pos w2]; exact a13, fr15⟩
      · rw [if_neg w2]
        refine w_if_eq (tgt := 91) (pc' := 82) F (by omega) dX3_readWord_79 (by decide) rfl (fun _ => ?_) (fun c0 => absurd rfl c0)
        refine v_aload_n (pc' := 92) F dX3_readWord_91 rfl (j := 0) rfl rfl ?_
        refine v_aload_n (pc' := 93) F dX3_readWord_92 rfl (j := 0) rfl rfl ?_
        refine v_ldcS (pc' := 95) (i := 3) (tx := "pace") F (by decide) dX3_readWord_93 rfl ?_
        refine v_callV (pc' := 98) (rt := (some .boolean)) (mcc := 0) (msc := 0) (As := [.ref (G.2.2 3)]) (st := [.ref rd]) F (fun l => c_X3_isWord G z0 l (i := 3) (by omega) hlen hmay hbuf1 ht hr1 (by omega) (by omega) (fun j9 a9 b9 => eL_in t _ _ j9 a9 b9)) gX3_readWord_X3_isWord rfl hv_X3_isWord (by decide) (by decide) hr1 rfl rfl rfl (Nat.le_of_ble_eq_true rfl) (by omega) (by omega) dX3_readWord_95 rfl (fun v16 hA hq => ?_)
        obtain ⟨rfl, rfl⟩ := hq
        by_cases w3 : isW t 3 s (eL t (len - s) s) = true
        · rw [if_pos w3]
          refine w_if_eq (tgt := 106) (pc' := 101) F (by omega) dX3_readWord_98 (by decide) rfl (fun c0 => absurd c0 (by omega)) (fun _ => ?_)
          refine v_bipush (pc' := 103) (v := nI 7) F dX3_readWord_101 (by decide) rfl ?_
          refine v_goto (tgt := 107) F dX3_readWord_103 (by decide) ?_
          refine w_putf (pc' := 110) F k_X3_readWord_3 tyX3_ok nmX3 hr1 7 (by decide) m_X3_readWord_f35 rfl  rfl rfl (show 7 < 10 by decide) [.int off, .ref buf, .int (nI len), .ref b, .int er, .int (nI (eL t (len - s) s)), .int (nI s), .int (nI 7), .int (nI nu), .int (nI may)] rfl dX3_readWord_107 rfl (fun h17 a18 f19 => ?_)
          have fr20 : gfr [rd] h h17 := (gfr.t frA f19)
          exact v_vret F E (by omega) (by omega)  dX3_readWord_110 ⟨rfl, by unfold wkd; rw [if_neg w0]; rw [if_neg w1]; rw [if_neg w2]; rw [if_pos w3]; exact a18, fr20⟩
        · rw [if_neg w3]
          refine w_if_eq (tgt := 106) (pc' := 101) F (by omega) dX3_readWord_98 (by decide) rfl (fun _ => ?_) (fun c0 => absurd rfl c0)
          refine v_iconst (pc' := 107) (v := nI 1) F dX3_readWord_106 (by decide) rfl ?_
          refine w_putf (pc' := 110) F k_X3_readWord_3 tyX3_ok nmX3 hr1 7 (by decide) m_X3_readWord_f35 rfl  rfl rfl (show 7 < 10 by decide) [.int off, .ref buf, .int (nI len), .ref b, .int er, .int (nI (eL t (len - s) s)), .int (nI s), .int (nI 1), .int (nI nu), .int (nI may)] rfl dX3_readWord_107 rfl (fun h21 a22 f23 => ?_)
          have fr24 : gfr [rd] h h21 := (gfr.t frA f23)
          exact v_vret F E (by omega) (by omega)  dX3_readWord_110 ⟨rfl, by unfold wkd; rw [if_neg w0]; rw [if_neg w1]; rw [if_neg w2]; rw [if_neg w3]; exact a22, fr24⟩
theorem k_X3_readToken_3 : gCl wsX3_readToken 3 RX3 TX3 10 := ⟨by decide +kernel, rfl⟩
theorem m_X3_readToken_f29 : Cond.fieldLink RX3 29 "SteadyQueues$SetupReader" "at" "I" ∈ wsX3_readToken := by decide +kernel
theorem m_X3_readToken_f19 : Cond.fieldLink RX3 19 "SteadyQueues$SetupReader" "length" "I" ∈ wsX3_readToken := by decide +kernel
theorem m_X3_readToken_f15 : Cond.fieldLink RX3 15 "SteadyQueues$SetupReader" "text" "[B" ∈ wsX3_readToken := by decide +kernel
set_option maxHeartbeats 4000000 in
set_option maxRecDepth 100000 in
theorem lp_X3_readToken {G : gG} {z0 : Nat} {X : gX} {mc ms cells slots m a s0 kd nu : Nat} {h : gH} {rd buf len b may : Nat} {er off : Int32} {t : Nat → Nat} {f : Nat → Int32} (F : gF G z0 X cX3_readToken 1 RX3 wsX3_readToken none "readToken" 6 127 mc ms) (hcc : cells ≤ mc) (hss : slots ≤ ms) (hlen : len ≤ 500) (hmay : may ≤ 1) (hbuf : h buf = some (oB G 500 f)) (ht : ∀ j, j < len → f j = sb_b (t j) ∧ t j < 256) (hr : h rd = some (.inr (3, [.int off, .ref buf, .int (nI len), .ref b, .int er, .int (nI a), .int (nI s0), .int (nI kd), .int (nI nu), .int (nI may)]))) (ha : a + m = len) (K : ∀ h', h' rd = some (.inr (3, [.int off, .ref buf, .int (nI len), .ref b, .int er, .int (nI (eS t m a)), .int (nI s0), .int (nI kd), .int (nI nu), .int (nI may)])) → h' buf = some (oB G 500 f) → gfr [rd] h h' → gV G z0 X cells slots h' 38 [(0, .ref rd)] []) : gV G z0 X cells slots h 0 [(0, .ref rd)] [] := by
  induction m generalizing a h with
  | zero =>
    refine v_aload_n (pc' := 1) F dX3_readToken_0 rfl (j := 0) rfl rfl ?_
    refine v_getf (pc' := 4) (v := .int (nI a)) F k_X3_readToken_3 hr 5 (by decide) m_X3_readToken_f29 rfl dX3_readToken_1 rfl ?_
    refine v_aload_n (pc' := 5) F dX3_readToken_4 rfl (j := 0) rfl rfl ?_
    refine v_getf (pc' := 8) (v := .int (nI len)) F k_X3_readToken_3 hr 2 (by decide) m_X3_readToken_f19 rfl dX3_readToken_5 rfl ?_
    refine w_icmp_ge (tgt := 38) (pc' := 11) F (by omega) (by omega) dX3_readToken_8 (by decide) rfl (fun _ => ?_) (fun c0 => absurd c0 (by omega))
    exact K h hr hbuf gfr.rf
  | succ m ih =>
    have h256 := (ht a (by omega)).2
    refine v_aload_n (pc' := 1) F dX3_readToken_0 rfl (j := 0) rfl rfl ?_
    refine v_getf (pc' := 4) (v := .int (nI a)) F k_X3_readToken_3 hr 5 (by decide) m_X3_readToken_f29 rfl dX3_readToken_1 rfl ?_
    refine v_aload_n (pc' := 5) F dX3_readToken_4 rfl (j := 0) rfl rfl ?_
    refine v_getf (pc' := 8) (v := .int (nI len)) F k_X3_readToken_3 hr 2 (by decide) m_X3_readToken_f19 rfl dX3_readToken_5 rfl ?_
    refine w_icmp_ge (tgt := 38) (pc' := 11) F (by omega) (by omega) dX3_readToken_8 (by decide) rfl (fun c0 => absurd c0 (by omega)) (fun _ => ?_)
    refine v_aload_n (pc' := 12) F dX3_readToken_11 rfl (j := 0) rfl rfl ?_
    refine v_getf (pc' := 15) (v := .ref buf) F k_X3_readToken_3 hr 1 (by decide) m_X3_readToken_f15 rfl dX3_readToken_12 rfl ?_
    refine v_aload_n (pc' := 16) F dX3_readToken_15 rfl (j := 0) rfl rfl ?_
    refine v_getf (pc' := 19) (v := .int (nI a)) F k_X3_readToken_3 hr 5 (by decide) m_X3_readToken_f29 rfl dX3_readToken_16 rfl ?_
    refine w_bald (pc' := 20) (v := sb_b (t a)) F hbuf (by omega) (by omega) (ht a (by omega)).1 dX3_readToken_19 rfl ?_
    refine v_bipush (pc' := 22) (v := nI 32) F dX3_readToken_20 (by decide) rfl ?_
    refine v_icmp_ne (tgt := 38) (pc' := 25) F dX3_readToken_22 (by decide) rfl (fun c0 => ?_) (fun c0 => ?_)
    · exact K h (by unfold eS; rw [if_neg (fun z => c0 ((sb_eq h256 32 (by omega)).mpr z))]; exact hr) hbuf gfr.rf
    · refine v_aload_n (pc' := 26) F dX3_readToken_25 rfl (j := 0) rfl rfl ?_
      refine v_dup (pc' := 27) F dX3_readToken_26 rfl rfl ?_
      refine v_getf (pc' := 30) (v := .int (nI a)) F k_X3_readToken_3 hr 5 (by decide) m_X3_readToken_f29 rfl dX3_readToken_27 rfl ?_
      refine v_iconst (pc' := 31) (v := nI 1) F dX3_readToken_30 (by decide) rfl ?_
      refine v_iadd (pc' := 32) (v := nI (a + 1)) F dX3_readToken_31 (nI_add a 1) rfl ?_
      refine w_putf (pc' := 35) F k_X3_readToken_3 tyX3_ok nmX3 hr 5 (by decide) m_X3_readToken_f29 rfl  rfl rfl (show 5 < 10 by decide) [.int off, .ref buf, .int (nI len), .ref b, .int er, .int (nI (a + 1)), .int (nI s0), .int (nI kd), .int (nI nu), .int (nI may)] rfl dX3_readToken_32 rfl (fun h1 a2 f3 => ?_)
      refine v_goto (tgt := 0) F dX3_readToken_35 (by decide) ?_
      have fr4 : gfr [rd] h h1 := f3
      have g5 := f3 _ _ (gnc (Ne.symm (g_neA hr hbuf)) gn0) hbuf
      exact ih (a := a + 1) g5 a2 (by omega) (fun h9 k9 b9 f9 => K h9 (by unfold eS; rw [if_pos ((sb_eq h256 32 (by omega)).mp c0)]; exact k9) b9 (gfr.t fr4 f9))
theorem m_X3_readToken_f32 : Cond.fieldLink RX3 32 "SteadyQueues$SetupReader" "start" "I" ∈ wsX3_readToken := by decide +kernel
theorem hv_X3_readNumber : yX3_readNumber.cls = RX3 ∧ yX3_readNumber.cls ≠ "java/lang/invoke/MethodHandle" ∧ yX3_readNumber.cls ≠ "java/lang/invoke/VarHandle" ∧ (parseMethodDescriptor yX3_readNumber.desc).map (fun d => d.parameters.length) = some 0 := by decide +kernel
theorem hv_X3_readWord : yX3_readWord.cls = RX3 ∧ yX3_readWord.cls ≠ "java/lang/invoke/MethodHandle" ∧ yX3_readWord.cls ≠ "java/lang/invoke/VarHandle" ∧ (parseMethodDescriptor yX3_readWord.desc).map (fun d => d.parameters.length) = some 0 := by decide +kernel
theorem m_X3_readToken_f35 : Cond.fieldLink RX3 35 "SteadyQueues$SetupReader" "kind" "I" ∈ wsX3_readToken := by decide +kernel
set_option maxHeartbeats 4000000 in
set_option maxRecDepth 100000 in
theorem c_X3_readToken (G : gG) (z0 : Nat) (l : Launch) {h : gH} {rd buf len b may : Nat} {er off : Int32} {t : Nat → Nat} {f : Nat → Int32} {a s0 kd nu : Nat} (hlen : len ≤ 500) (hmay : may ≤ 1) (hbuf : h buf = some (oB G 500 f)) (ht : ∀ j, j < len → f j = sb_b (t j) ∧ t j < 256) (hr : h rd = some (.inr (3, [.int off, .ref buf, .int (nI len), .ref b, .int er, .int (nI a), .int (nI s0), .int (nI kd), .int (nI nu), .int (nI may)]))) (hal : a ≤ len) : gC G z0 l yX3_readToken wsX3_readToken 6 127 [.ref rd] h (fun v h' => v = none ∧ h' rd = some (.inr (3, [.int off, .ref buf, .int (nI len), .ref b, .int er, .int (nI (enT t len (sk t len a))), .int (nI (sk t len a)), .int (nI (kdT t len (sk t len a))), .int (nI (nuT t len (sk t len a) nu)), .int (nI may)])) ∧ gfr [rd] h h') 0 0 := by
  have hsb := sk_b t hal
  refine gC_of (cc := cX3_readToken) (nL := 1) (ret := none) (by decide) rfl (Nat.le_of_ble_eq_true rfl) ?_
  intro X F E _
  change gF G z0 X cX3_readToken 1 RX3 wsX3_readToken none "readToken" 6 127 _ _ at F
  show gV G z0 X 0 0 h 0 [(0, .ref rd)] []
  refine lp_X3_readToken (m := len - a) F (by omega) (by omega) hlen hmay hbuf ht hr (by omega) (fun hA hr1 hbuf1 frA => ?_)
  change hA rd = some (.inr (3, [.int off, .ref buf, .int (nI len), .ref b, .int er, .int (nI (sk t len a)), .int (nI s0), .int (nI kd), .int (nI nu), .int (nI may)])) at hr1
  obtain ⟨s, hs⟩ : ∃ s, s = sk t len a := ⟨_, rfl⟩
  rw [← hs] at hr1 hsb
  refine v_aload_n (pc' := 39) F dX3_readToken_38 rfl (j := 0) rfl rfl ?_
  refine v_aload_n (pc' := 40) F dX3_readToken_39 rfl (j := 0) rfl rfl ?_
  refine v_getf (pc' := 43) (v := .int (nI s)) F k_X3_readToken_3 hr1 5 (by decide) m_X3_readToken_f29 rfl dX3_readToken_40 rfl ?_
  refine w_putf (pc' := 46) F k_X3_readToken_3 tyX3_ok nmX3 hr1 6 (by decide) m_X3_readToken_f32 rfl  rfl rfl (show 6 < 10 by decide) [.int off, .ref buf, .int (nI len), .ref b, .int er, .int (nI s), .int (nI s), .int (nI kd), .int (nI nu), .int (nI may)] rfl dX3_readToken_43 rfl (fun h1 a2 f3 => ?_)
  refine v_aload_n (pc' := 47) F dX3_readToken_46 rfl (j := 0) rfl rfl ?_
  refine v_getf (pc' := 50) (v := .int (nI s)) F k_X3_readToken_3 a2 5 (by decide) m_X3_readToken_f29 rfl dX3_readToken_47 rfl ?_
  refine v_aload_n (pc' := 51) F dX3_readToken_50 rfl (j := 0) rfl rfl ?_
  refine v_getf (pc' := 54) (v := .int (nI len)) F k_X3_readToken_3 a2 2 (by decide) m_X3_readToken_f19 rfl dX3_readToken_51 rfl ?_
  refine w_icmp_lt (tgt := 65) (pc' := 57) F (by omega) (by omega) dX3_readToken_54 (by decide) rfl (fun c2 => ?_) (fun c2 => ?_)
  · have h256 := (ht s (by omega)).2
    refine v_aload_n (pc' := 66) F dX3_readToken_65 rfl (j := 0) rfl rfl ?_
    refine v_getf (pc' := 69) (v := .ref buf) F k_X3_readToken_3 a2 1 (by decide) m_X3_readToken_f15 rfl dX3_readToken_66 rfl ?_
    refine v_aload_n (pc' := 70) F dX3_readToken_69 rfl (j := 0) rfl rfl ?_
    refine v_getf (pc' := 73) (v := .int (nI s)) F k_X3_readToken_3 a2 5 (by decide) m_X3_readToken_f29 rfl dX3_readToken_70 rfl ?_
    have g4 := f3 _ _ (gnc (Ne.symm (g_neA hr1 hbuf1)) gn0) hbuf1
    refine w_bald (pc' := 74) (v := sb_b (t s)) F g4 (by omega) (by omega) (ht s (by omega)).1 dX3_readToken_73 rfl ?_
    refine v_callS (pc' := 77) (rt := (some .boolean)) (mcc := 0) (msc := 0) (As := [.int (sb_b (t s))]) (st := []) F (fun l => c_X3_isDigit G z0 l h256) gX3_readToken_X3_isDigit rfl hd_X3_isDigit (by decide) (by decide) rfl rfl (Nat.le_of_ble_eq_true rfl) (by omega) (by omega) dX3_readToken_74 rfl (fun v5 h1 hq => ?_)
    obtain ⟨rfl, rfl⟩ := hq
    by_cases hd : 48 ≤ t s ∧ t s ≤ 57
    · rw [if_pos hd]
      refine w_if_eq (tgt := 87) (pc' := 80) F (by omega) dX3_readToken_77 (by decide) rfl (fun c0 => absurd c0 (by omega)) (fun _ => ?_)
      refine v_aload_n (pc' := 81) F dX3_readToken_80 rfl (j := 0) rfl rfl ?_
      refine v_callV (pc' := 84) (rt := none) (mcc := 0) (msc := 0) (As := []) (st := []) F (fun l => c_X3_readNumber G z0 l hlen hmay g4 ht a2 (by omega)) gX3_readToken_X3_readNumber rfl hv_X3_readNumber (by decide) (by decide) a2 rfl rfl rfl (Nat.le_of_ble_eq_true rfl) (by omega) (by omega) dX3_readToken_81 rfl (fun v7 h6 hq => ?_)
      obtain ⟨rfl, hr3, fr3⟩ := hq
      refine v_goto (tgt := 142) F dX3_readToken_84 (by decide) ?_
      have fr8 : gfr [rd] h h6 := (gfr.t frA (gfr.t f3 fr3))
      exact v_vret F E (by omega) (by omega)  dX3_readToken_142 ⟨rfl, by rw [← hs]; unfold kdT enT nuT; rw [if_neg (show ¬ len ≤ s by omega), if_neg (show ¬ len ≤ s by omega), if_neg (show ¬ len ≤ s by omega), if_pos hd, if_pos hd, if_pos hd]; exact hr3, fr8⟩
    · rw [if_neg hd]
      refine w_if_eq (tgt := 87) (pc' := 80) F (by omega) dX3_readToken_77 (by decide) rfl (fun _ => ?_) (fun c0 => absurd rfl c0)
      refine v_aload_n (pc' := 88) F dX3_readToken_87 rfl (j := 0) rfl rfl ?_
      refine v_getf (pc' := 91) (v := .ref buf) F k_X3_readToken_3 a2 1 (by decide) m_X3_readToken_f15 rfl dX3_readToken_88 rfl ?_
      refine v_aload_n (pc' := 92) F dX3_readToken_91 rfl (j := 0) rfl rfl ?_
      refine v_getf (pc' := 95) (v := .int (nI s)) F k_X3_readToken_3 a2 5 (by decide) m_X3_readToken_f29 rfl dX3_readToken_92 rfl ?_
      refine w_bald (pc' := 96) (v := sb_b (t s)) F g4 (by omega) (by omega) (ht s (by omega)).1 dX3_readToken_95 rfl ?_
      refine v_callS (pc' := 99) (rt := (some .boolean)) (mcc := 0) (msc := 0) (As := [.int (sb_b (t s))]) (st := []) F (fun l => c_X3_isLetter G z0 l h256) gX3_readToken_X3_isLetter rfl hd_X3_isLetter (by decide) (by decide) rfl rfl (Nat.le_of_ble_eq_true rfl) (by omega) (by omega) dX3_readToken_96 rfl (fun v9 h1 hq => ?_)
      obtain ⟨rfl, rfl⟩ := hq
      by_cases hq : 97 ≤ t s ∧ t s ≤ 122
      · rw [if_pos hq]
        refine w_if_eq (tgt := 109) (pc' := 102) F (by omega) dX3_readToken_99 (by decide) rfl (fun c0 => absurd c0 (by omega)) (fun _ => ?_)
        refine v_aload_n (pc' := 103) F dX3_readToken_102 rfl (j := 0) rfl rfl ?_
        refine v_callV (pc' := 106) (rt := none) (mcc := 0) (msc := 0) (As := []) (st := []) F (fun l => c_X3_readWord G z0 l hlen hmay g4 ht a2 (by omega)) gX3_readToken_X3_readWord rfl hv_X3_readWord (by decide) (by decide) a2 rfl rfl rfl (Nat.le_of_ble_eq_true rfl) (by omega) (by omega) dX3_readToken_103 rfl (fun v11 h10 hq => ?_)
        obtain ⟨rfl, hr3, fr3⟩ := hq
        refine v_goto (tgt := 142) F dX3_readToken_106 (by decide) ?_
        have fr12 : gfr [rd] h h10 := (gfr.t frA (gfr.t f3 fr3))
        exact v_vret F E (by omega) (by omega)  dX3_readToken_142 ⟨rfl, by rw [← hs]; unfold kdT enT nuT; rw [if_neg (show ¬ len ≤ s by omega), if_neg (show ¬ len ≤ s by omega), if_neg (show ¬ len ≤ s by omega), if_neg hd, if_neg hd, if_neg hd, if_pos hq, if_pos hq]; exact hr3, fr12⟩
      · rw [if_neg hq]
        refine w_if_eq (tgt := 109) (pc' := 102) F (by omega) dX3_readToken_99 (by decide) rfl (fun _ => ?_) (fun c0 => absurd rfl c0)
        refine v_aload_n (pc' := 110) F dX3_readToken_109 rfl (j := 0) rfl rfl ?_
        refine v_aload_n (pc' := 111) F dX3_readToken_110 rfl (j := 0) rfl rfl ?_
        refine v_getf (pc' := 114) (v := .ref buf) F k_X3_readToken_3 a2 1 (by decide) m_X3_readToken_f15 rfl dX3_readToken_111 rfl ?_
        refine v_aload_n (pc' := 115) F dX3_readToken_114 rfl (j := 0) rfl rfl ?_
        refine v_getf (pc' := 118) (v := .int (nI s)) F k_X3_readToken_3 a2 5 (by decide) m_X3_readToken_f29 rfl dX3_readToken_115 rfl ?_
        refine w_bald (pc' := 119) (v := sb_b (t s)) F g4 (by omega) (by omega) (ht s (by omega)).1 dX3_readToken_118 rfl ?_
        refine v_bipush (pc' := 121) (v := nI 59) F dX3_readToken_119 (by decide) rfl ?_
        refine v_icmp_ne (tgt := 128) (pc' := 124) F dX3_readToken_121 (by decide) rfl (fun c5 => ?_) (fun c5 => ?_)
        · refine v_iconst (pc' := 129) (v := nI 1) F dX3_readToken_128 (by decide) rfl ?_
          refine w_putf (pc' := 132) F k_X3_readToken_3 tyX3_ok nmX3 a2 7 (by decide) m_X3_readToken_f35 rfl  rfl rfl (show 7 < 10 by decide) [.int off, .ref buf, .int (nI len), .ref b, .int er, .int (nI s), .int (nI s), .int (nI 1), .int (nI nu), .int (nI may)] rfl dX3_readToken_129 rfl (fun h13 a14 f15 => ?_)
          refine v_aload_n (pc' := 133) F dX3_readToken_132 rfl (j := 0) rfl rfl ?_
          refine v_dup (pc' := 134) F dX3_readToken_133 rfl rfl ?_
          refine v_getf (pc' := 137) (v := .int (nI s)) F k_X3_readToken_3 a14 5 (by decide) m_X3_readToken_f29 rfl dX3_readToken_134 rfl ?_
          refine v_iconst (pc' := 138) (v := nI 1) F dX3_readToken_137 (by decide) rfl ?_
          refine v_iadd (pc' := 139) (v := nI (s + 1)) F dX3_readToken_138 (nI_add s 1) rfl ?_
          refine w_putf (pc' := 142) F k_X3_readToken_3 tyX3_ok nmX3 a14 5 (by decide) m_X3_readToken_f29 rfl  rfl rfl (show 5 < 10 by decide) [.int off, .ref buf, .int (nI len), .ref b, .int er, .int (nI (s + 1)), .int (nI s), .int (nI 1), .int (nI nu), .int (nI may)] rfl dX3_readToken_139 rfl (fun h16 a17 f18 => ?_)
          have fr19 : gfr [rd] h h16 := (gfr.t frA (gfr.t f3 (gfr.t f15 f18)))
          exact v_vret F E (by omega) (by omega)  dX3_readToken_142 ⟨rfl, by rw [← hs]; unfold kdT enT nuT; rw [if_neg (show ¬ len ≤ s by omega), if_neg (show ¬ len ≤ s by omega), if_neg (show ¬ len ≤ s by omega), if_neg hd, if_neg hd, if_neg hd, if_neg hq, if_neg hq, if_neg (fun z => c5 ((sb_eq h256 59 (by omega)).mpr z))]; exact a17, fr19⟩
        · refine v_iconst (pc' := 125) (v := nI 3) F dX3_readToken_124 (by decide) rfl ?_
          refine v_goto (tgt := 129) F dX3_readToken_125 (by decide) ?_
          refine w_putf (pc' := 132) F k_X3_readToken_3 tyX3_ok nmX3 a2 7 (by decide) m_X3_readToken_f35 rfl  rfl rfl (show 7 < 10 by decide) [.int off, .ref buf, .int (nI len), .ref b, .int er, .int (nI s), .int (nI s), .int (nI 3), .int (nI nu), .int (nI may)] rfl dX3_readToken_129 rfl (fun h20 a21 f22 => ?_)
          refine v_aload_n (pc' := 133) F dX3_readToken_132 rfl (j := 0) rfl rfl ?_
          refine v_dup (pc' := 134) F dX3_readToken_133 rfl rfl ?_
          refine v_getf (pc' := 137) (v := .int (nI s)) F k_X3_readToken_3 a21 5 (by decide) m_X3_readToken_f29 rfl dX3_readToken_134 rfl ?_
          refine v_iconst (pc' := 138) (v := nI 1) F dX3_readToken_137 (by decide) rfl ?_
          refine v_iadd (pc' := 139) (v := nI (s + 1)) F dX3_readToken_138 (nI_add s 1) rfl ?_
          refine w_putf (pc' := 142) F k_X3_readToken_3 tyX3_ok nmX3 a21 5 (by decide) m_X3_readToken_f29 rfl  rfl rfl (show 5 < 10 by decide) [.int off, .ref buf, .int (nI len), .ref b, .int er, .int (nI (s + 1)), .int (nI s), .int (nI 3), .int (nI nu), .int (nI may)] rfl dX3_readToken_139 rfl (fun h23 a24 f25 => ?_)
          have fr26 : gfr [rd] h h23 := (gfr.t frA (gfr.t f3 (gfr.t f22 f25)))
          exact v_vret F E (by omega) (by omega)  dX3_readToken_142 ⟨rfl, by rw [← hs]; unfold kdT enT nuT; rw [if_neg (show ¬ len ≤ s by omega), if_neg (show ¬ len ≤ s by omega), if_neg (show ¬ len ≤ s by omega), if_neg hd, if_neg hd, if_neg hd, if_neg hq, if_neg hq, if_pos ((sb_eq h256 59 (by omega)).mp c5)]; exact a24, fr26⟩
  · refine v_aload_n (pc' := 58) F dX3_readToken_57 rfl (j := 0) rfl rfl ?_
    refine v_iconst (pc' := 59) (v := nI 0) F dX3_readToken_58 (by decide) rfl ?_
    refine w_putf (pc' := 62) F k_X3_readToken_3 tyX3_ok nmX3 a2 7 (by decide) m_X3_readToken_f35 rfl  rfl rfl (show 7 < 10 by decide) [.int off, .ref buf, .int (nI len), .ref b, .int er, .int (nI s), .int (nI s), .int (nI 0), .int (nI nu), .int (nI may)] rfl dX3_readToken_59 rfl (fun h27 a28 f29 => ?_)
    refine v_goto (tgt := 142) F dX3_readToken_62 (by decide) ?_
    have fr30 : gfr [rd] h h27 := (gfr.t frA (gfr.t f3 f29))
    exact v_vret F E (by omega) (by omega)  dX3_readToken_142 ⟨rfl, by rw [← hs]; unfold kdT enT nuT; rw [if_pos (show len ≤ s by omega), if_pos (show len ≤ s by omega), if_pos (show len ≤ s by omega)]; exact a28, fr30⟩
theorem k_X3_fail_3 : gCl wsX3_fail 3 RX3 TX3 10 := ⟨by decide +kernel, rfl⟩
theorem m_X3_fail_f26 : Cond.fieldLink RX3 26 "SteadyQueues$SetupReader" "error" "I" ∈ wsX3_fail := by decide +kernel
theorem m_X3_fail_f32 : Cond.fieldLink RX3 32 "SteadyQueues$SetupReader" "start" "I" ∈ wsX3_fail := by decide +kernel
theorem m_X3_fail_f9 : Cond.fieldLink RX3 9 "SteadyQueues$SetupReader" "offsetOfError" "I" ∈ wsX3_fail := by decide +kernel
set_option maxHeartbeats 4000000 in
set_option maxRecDepth 100000 in
theorem c_X3_fail (G : gG) (z0 : Nat) (l : Launch) {h : gH} {rd buf len b may : Nat} {er off : Int32} {a s kd nu : Nat} (co : Int32) (hr : h rd = some (.inr (3, [.int off, .ref buf, .int (nI len), .ref b, .int er, .int (nI a), .int (nI s), .int (nI kd), .int (nI nu), .int (nI may)]))) : gC G z0 l yX3_fail wsX3_fail 0 0 [.ref rd, .int co] h (fun v h' => v = some (.int (nI 0)) ∧ h' rd = some (.inr (3, [.int (nI s), .ref buf, .int (nI len), .ref b, .int co, .int (nI a), .int (nI s), .int (nI kd), .int (nI nu), .int (nI may)])) ∧ gfr [rd] h h') 0 0 := by
  refine gC_of (cc := cX3_fail) (nL := 2) (ret := (some .boolean)) (by decide) rfl (Nat.le_of_ble_eq_true rfl) ?_
  intro X F E _
  change gF G z0 X cX3_fail 2 RX3 wsX3_fail (some .boolean) "fail" 0 0 _ _ at F
  show gV G z0 X 0 0 h 0 [(0, .ref rd), (1, .int co)] []
  refine v_aload_n (pc' := 1) F dX3_fail_0 rfl (j := 0) rfl rfl ?_
  refine v_iload_n (pc' := 2) F dX3_fail_1 rfl (j := 1) rfl rfl ?_
  refine w_putf (pc' := 5) F k_X3_fail_3 tyX3_ok nmX3 hr 4 (by decide) m_X3_fail_f26 rfl  rfl rfl (show 4 < 10 by decide) [.int off, .ref buf, .int (nI len), .ref b, .int co, .int (nI a), .int (nI s), .int (nI kd), .int (nI nu), .int (nI may)] rfl dX3_fail_2 rfl (fun h1 a2 f3 => ?_)
  refine v_aload_n (pc' := 6) F dX3_fail_5 rfl (j := 0) rfl rfl ?_
  refine v_aload_n (pc' := 7) F dX3_fail_6 rfl (j := 0) rfl rfl ?_
  refine v_getf (pc' := 10) (v := .int (nI s)) F k_X3_fail_3 a2 6 (by decide) m_X3_fail_f32 rfl dX3_fail_7 rfl ?_
  refine w_putf (pc' := 13) F k_X3_fail_3 tyX3_ok nmX3 a2 0 (by decide) m_X3_fail_f9 rfl  rfl rfl (show 0 < 10 by decide) [.int (nI s), .ref buf, .int (nI len), .ref b, .int co, .int (nI a), .int (nI s), .int (nI kd), .int (nI nu), .int (nI may)] rfl dX3_fail_10 rfl (fun h4 a5 f6 => ?_)
  refine v_iconst (pc' := 14) (v := nI 0) F dX3_fail_13 (by decide) rfl ?_
  have fr7 : gfr [rd] h h4 := (gfr.t f3 f6)
  refine v_zret F E (by omega) (by omega) (by decide) dX3_fail_14 ?_
  exact ⟨rfl, a5, fr7⟩
theorem k_X3_pass_3 : gCl wsX3_pass 3 RX3 TX3 10 := ⟨by decide +kernel, rfl⟩
theorem m_X3_pass_f35 : Cond.fieldLink RX3 35 "SteadyQueues$SetupReader" "kind" "I" ∈ wsX3_pass := by decide +kernel
theorem hv_X3_readToken : yX3_readToken.cls = RX3 ∧ yX3_readToken.cls ≠ "java/lang/invoke/MethodHandle" ∧ yX3_readToken.cls ≠ "java/lang/invoke/VarHandle" ∧ (parseMethodDescriptor yX3_readToken.desc).map (fun d => d.parameters.length) = some 0 := by decide +kernel
theorem hv_X3_fail : yX3_fail.cls = RX3 ∧ yX3_fail.cls ≠ "java/lang/invoke/MethodHandle" ∧ yX3_fail.cls ≠ "java/lang/invoke/VarHandle" ∧ (parseMethodDescriptor yX3_fail.desc).map (fun d => d.parameters.length) = some 1 := by decide +kernel
set_option maxHeartbeats 4000000 in
set_option maxRecDepth 100000 in
theorem c_X3_pass (G : gG) (z0 : Nat) (l : Launch) {h : gH} {rd buf len b may : Nat} {er off : Int32} {t : Nat → Nat} {f : Nat → Int32} {a s kd nu k : Nat} (hlen : len ≤ 500) (hmay : may ≤ 1) (hbuf : h buf = some (oB G 500 f)) (ht : ∀ j, j < len → f j = sb_b (t j) ∧ t j < 256) (hr : h rd = some (.inr (3, [.int off, .ref buf, .int (nI len), .ref b, .int er, .int (nI a), .int (nI s), .int (nI kd), .int (nI nu), .int (nI may)]))) (hal : a ≤ len) (hkd : kd < 100) (hk : k < 100) : gC G z0 l yX3_pass wsX3_pass 7 147 [.ref rd, .int (nI k)] h (fun v h' => (kd = k ∧ v = some (.int (nI 1)) ∧ h' rd = some (.inr (3, [.int off, .ref buf, .int (nI len), .ref b, .int er, .int (nI (enT t len (sk t len a))), .int (nI (sk t len a)), .int (nI (kdT t len (sk t len a))), .int (nI (nuT t len (sk t len a) nu)), .int (nI may)])) ∧ gfr [rd] h h') ∨ (kd ≠ k ∧ v = some (.int (nI 0)) ∧ h' rd = some (.inr (3, [.int (nI s), .ref buf, .int (nI len), .ref b, .int (-2), .int (nI a), .int (nI s), .int (nI kd), .int (nI nu), .int (nI may)])) ∧ gfr [rd] h h')) 0 0 := by
  refine gC_of (cc := cX3_pass) (nL := 2) (ret := (some .boolean)) (by decide) rfl (Nat.le_of_ble_eq_true rfl) ?_
  intro X F E _
  change gF G z0 X cX3_pass 2 RX3 wsX3_pass (some .boolean) "pass" 7 147 _ _ at F
  show gV G z0 X 0 0 h 0 [(0, .ref rd), (1, .int (nI k))] []
  refine v_aload_n (pc' := 1) F dX3_pass_0 rfl (j := 0) rfl rfl ?_
  refine v_getf (pc' := 4) (v := .int (nI kd)) F k_X3_pass_3 hr 7 (by decide) m_X3_pass_f35 rfl dX3_pass_1 rfl ?_
  refine v_iload_n (pc' := 5) F dX3_pass_4 rfl (j := 1) rfl rfl ?_
  refine w_icmp_eq (tgt := 15) (pc' := 8) F (by omega) (by omega) dX3_pass_5 (by decide) rfl (fun c0 => ?_) (fun c0 => ?_)
  · refine v_aload_n (pc' := 16) F dX3_pass_15 rfl (j := 0) rfl rfl ?_
    refine v_callV (pc' := 19) (rt := none) (mcc := 0) (msc := 0) (As := []) (st := []) F (fun l => c_X3_readToken G z0 l hlen hmay hbuf ht hr hal) gX3_pass_X3_readToken rfl hv_X3_readToken (by decide) (by decide) hr rfl rfl rfl (Nat.le_of_ble_eq_true rfl) (by omega) (by omega) dX3_pass_16 rfl (fun v2 h1 hq => ?_)
    obtain ⟨rfl, hr3, fr3⟩ := hq
    refine v_iconst (pc' := 20) (v := nI 1) F dX3_pass_19 (by decide) rfl ?_
    refine v_zret F E (by omega) (by omega) (by decide) dX3_pass_20 ?_
    exact Or.inl ⟨c0, rfl, hr3, fr3⟩
  · refine v_aload_n (pc' := 9) F dX3_pass_8 rfl (j := 0) rfl rfl ?_
    refine v_bipush (pc' := 11) (v := (-2)) F dX3_pass_9 (by decide) rfl ?_
    refine v_callV (pc' := 14) (rt := (some .boolean)) (mcc := 0) (msc := 0) (As := [.int (-2)]) (st := []) F (fun l => c_X3_fail G z0 l (-2) hr) gX3_pass_X3_fail rfl hv_X3_fail (by decide) (by decide) hr rfl rfl rfl (Nat.le_of_ble_eq_true rfl) (by omega) (by omega) dX3_pass_11 rfl (fun v4 h3 hq => ?_)
    obtain ⟨rfl, hr3, fr3⟩ := hq
    refine v_zret F E (by omega) (by omega) (by decide) dX3_pass_14 ?_
    exact Or.inr ⟨c0, rfl, hr3, fr3⟩
theorem k_X3_seeNumber_3 : gCl wsX3_seeNumber 3 RX3 TX3 10 := ⟨by decide +kernel, rfl⟩
theorem m_X3_seeNumber_f35 : Cond.fieldLink RX3 35 "SteadyQueues$SetupReader" "kind" "I" ∈ wsX3_seeNumber := by decide +kernel
theorem m_X3_seeNumber_f38 : Cond.fieldLink RX3 38 "SteadyQueues$SetupReader" "number" "I" ∈ wsX3_seeNumber := by decide +kernel
set_option maxHeartbeats 4000000 in
set_option maxRecDepth 100000 in
theorem c_X3_seeNumber (G : gG) (z0 : Nat) (l : Launch) {h : gH} {rd buf len b may : Nat} {er off : Int32} {a s kd nu lo hi : Nat} (hr : h rd = some (.inr (3, [.int off, .ref buf, .int (nI len), .ref b, .int er, .int (nI a), .int (nI s), .int (nI kd), .int (nI nu), .int (nI may)]))) (hkd : kd < 100) (hnu : nu ≤ 1000) (hlo : lo < 1000) (hhi : hi < 1000) : gC G z0 l yX3_seeNumber wsX3_seeNumber 1 21 [.ref rd, .int (nI lo), .int (nI hi)] h (fun v h' => (kd = 2 ∧ lo ≤ nu ∧ nu ≤ hi ∧ v = some (.int (nI 1)) ∧ h' = h) ∨ (kd ≠ 2 ∧ v = some (.int (nI 0)) ∧ h' rd = some (.inr (3, [.int (nI s), .ref buf, .int (nI len), .ref b, .int (-2), .int (nI a), .int (nI s), .int (nI kd), .int (nI nu), .int (nI may)])) ∧ gfr [rd] h h') ∨ (kd = 2 ∧ ¬ (lo ≤ nu ∧ nu ≤ hi) ∧ v = some (.int (nI 0)) ∧ h' rd = some (.inr (3, [.int (nI s), .ref buf, .int (nI len), .ref b, .int (-3), .int (nI a), .int (nI s), .int (nI kd), .int (nI nu), .int (nI may)])) ∧ gfr [rd] h h')) 0 0 := by
  refine gC_of (cc := cX3_seeNumber) (nL := 3) (ret := (some .boolean)) (by decide) rfl (Nat.le_of_ble_eq_true rfl) ?_
  intro X F E _
  change gF G z0 X cX3_seeNumber 3 RX3 wsX3_seeNumber (some .boolean) "seeNumber" 1 21 _ _ at F
  show gV G z0 X 0 0 h 0 [(0, .ref rd), (1, .int (nI lo)), (2, .int (nI hi))] []
  refine v_aload_n (pc' := 1) F dX3_seeNumber_0 rfl (j := 0) rfl rfl ?_
  refine v_getf (pc' := 4) (v := .int (nI kd)) F k_X3_seeNumber_3 hr 7 (by decide) m_X3_seeNumber_f35 rfl dX3_seeNumber_1 rfl ?_
  refine v_iconst (pc' := 5) (v := nI 2) F dX3_seeNumber_4 (by decide) rfl ?_
  refine w_icmp_eq (tgt := 15) (pc' := 8) F (by omega) (by omega) dX3_seeNumber_5 (by decide) rfl (fun c0 => ?_) (fun c0 => ?_)
  · refine v_aload_n (pc' := 16) F dX3_seeNumber_15 rfl (j := 0) rfl rfl ?_
    refine v_getf (pc' := 19) (v := .int (nI nu)) F k_X3_seeNumber_3 hr 8 (by decide) m_X3_seeNumber_f38 rfl dX3_seeNumber_16 rfl ?_
    refine v_iload_n (pc' := 20) F dX3_seeNumber_19 rfl (j := 1) rfl rfl ?_
    refine w_icmp_lt (tgt := 31) (pc' := 23) F (by omega) (by omega) dX3_seeNumber_20 (by decide) rfl (fun c1 => ?_) (fun c1 => ?_)
    · refine v_aload_n (pc' := 32) F dX3_seeNumber_31 rfl (j := 0) rfl rfl ?_
      refine v_bipush (pc' := 34) (v := (-3)) F dX3_seeNumber_32 (by decide) rfl ?_
      refine v_callV (pc' := 37) (rt := (some .boolean)) (mcc := 0) (msc := 0) (As := [.int (-3)]) (st := []) F (fun l => c_X3_fail G z0 l (-3) hr) gX3_seeNumber_X3_fail rfl hv_X3_fail (by decide) (by decide) hr rfl rfl rfl (Nat.le_of_ble_eq_true rfl) (by omega) (by omega) dX3_seeNumber_34 rfl (fun v2 h1 hq => ?_)
      obtain ⟨rfl, hr3, fr3⟩ := hq
      refine w_if_eq (tgt := 44) (pc' := 40) F (by omega) dX3_seeNumber_37 (by decide) rfl (fun _ => ?_) (fun c0 => absurd c0 (by omega))
      refine v_iconst (pc' := 45) (v := nI 0) F dX3_seeNumber_44 (by decide) rfl ?_
      refine v_zret F E (by omega) (by omega) (by decide) dX3_seeNumber_45 ?_
      exact Or.inr (Or.inr ⟨c0, by omega, rfl, hr3, fr3⟩)
    · refine v_aload_n (pc' := 24) F dX3_seeNumber_23 rfl (j := 0) rfl rfl ?_
      refine v_getf (pc' := 27) (v := .int (nI nu)) F k_X3_seeNumber_3 hr 8 (by decide) m_X3_seeNumber_f38 rfl dX3_seeNumber_24 rfl ?_
      refine v_iload_n (pc' := 28) F dX3_seeNumber_27 rfl (j := 2) rfl rfl ?_
      refine w_icmp_le (tgt := 40) (pc' := 31) F (by omega) (by omega) dX3_seeNumber_28 (by decide) rfl (fun c2 => ?_) (fun c2 => ?_)
      · refine v_iconst (pc' := 41) (v := nI 1) F dX3_seeNumber_40 (by decide) rfl ?_
        refine v_goto (tgt := 45) F dX3_seeNumber_41 (by decide) ?_
        refine v_zret F E (by omega) (by omega) (by decide) dX3_seeNumber_45 ?_
        exact Or.inl ⟨c0, by omega, by omega, rfl, rfl⟩
      · refine v_aload_n (pc' := 32) F dX3_seeNumber_31 rfl (j := 0) rfl rfl ?_
        refine v_bipush (pc' := 34) (v := (-3)) F dX3_seeNumber_32 (by decide) rfl ?_
        refine v_callV (pc' := 37) (rt := (some .boolean)) (mcc := 0) (msc := 0) (As := [.int (-3)]) (st := []) F (fun l => c_X3_fail G z0 l (-3) hr) gX3_seeNumber_X3_fail rfl hv_X3_fail (by decide) (by decide) hr rfl rfl rfl (Nat.le_of_ble_eq_true rfl) (by omega) (by omega) dX3_seeNumber_34 rfl (fun v4 h3 hq => ?_)
        obtain ⟨rfl, hr3, fr3⟩ := hq
        refine w_if_eq (tgt := 44) (pc' := 40) F (by omega) dX3_seeNumber_37 (by decide) rfl (fun _ => ?_) (fun c0 => absurd c0 (by omega))
        refine v_iconst (pc' := 45) (v := nI 0) F dX3_seeNumber_44 (by decide) rfl ?_
        refine v_zret F E (by omega) (by omega) (by decide) dX3_seeNumber_45 ?_
        exact Or.inr (Or.inr ⟨c0, by omega, rfl, hr3, fr3⟩)
  · refine v_aload_n (pc' := 9) F dX3_seeNumber_8 rfl (j := 0) rfl rfl ?_
    refine v_bipush (pc' := 11) (v := (-2)) F dX3_seeNumber_9 (by decide) rfl ?_
    refine v_callV (pc' := 14) (rt := (some .boolean)) (mcc := 0) (msc := 0) (As := [.int (-2)]) (st := []) F (fun l => c_X3_fail G z0 l (-2) hr) gX3_seeNumber_X3_fail rfl hv_X3_fail (by decide) (by decide) hr rfl rfl rfl (Nat.le_of_ble_eq_true rfl) (by omega) (by omega) dX3_seeNumber_11 rfl (fun v6 h5 hq => ?_)
    obtain ⟨rfl, hr3, fr3⟩ := hq
    refine v_zret F E (by omega) (by omega) (by decide) dX3_seeNumber_14 ?_
    exact Or.inr (Or.inl ⟨c0, rfl, hr3, fr3⟩)

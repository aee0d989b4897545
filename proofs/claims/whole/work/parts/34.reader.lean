/-! THE READER: its tokens, over the codes of the signs -/
def eS (t : Nat → Nat) : Nat → Nat → Nat
  | 0, a => a
  | m + 1, a => if t a = 32 then eS t m (a + 1) else a
def eD (t : Nat → Nat) : Nat → Nat → Nat
  | 0, a => a
  | m + 1, a => if 48 ≤ t a ∧ t a ≤ 57 then eD t m (a + 1) else a
def eL (t : Nat → Nat) : Nat → Nat → Nat
  | 0, a => a
  | m + 1, a => if 97 ≤ t a ∧ t a ≤ 122 then eL t m (a + 1) else a
def vD (t : Nat → Nat) : Nat → Nat → Nat → Nat
  | 0, _, v => v
  | m + 1, a, v => if 48 ≤ t a ∧ t a ≤ 57 then vD t m (a + 1) (10 * v + (t a - 48)) else v
theorem eS_b (t : Nat → Nat) : ∀ (m a : Nat), a ≤ eS t m a ∧ eS t m a ≤ a + m
  | 0, a => ⟨Nat.le_refl _, Nat.le_refl _⟩
  | m + 1, a => by
    unfold eS
    have := eS_b t m (a + 1)
    split <;> omega
theorem eD_b (t : Nat → Nat) : ∀ (m a : Nat), a ≤ eD t m a ∧ eD t m a ≤ a + m
  | 0, a => ⟨Nat.le_refl _, Nat.le_refl _⟩
  | m + 1, a => by
    unfold eD
    have := eD_b t m (a + 1)
    split <;> omega
theorem eL_b (t : Nat → Nat) : ∀ (m a : Nat), a ≤ eL t m a ∧ eL t m a ≤ a + m
  | 0, a => ⟨Nat.le_refl _, Nat.le_refl _⟩
  | m + 1, a => by
    unfold eL
    have := eL_b t m (a + 1)
    split <;> omega
theorem eL_in (t : Nat → Nat) : ∀ (m a j : Nat), a ≤ j → j < eL t m a → 97 ≤ t j ∧ t j ≤ 122
  | 0, a, j, h1, h2 => by unfold eL at h2; omega
  | m + 1, a, j, h1, h2 => by
    unfold eL at h2
    split at h2
    · rename_i hc
      by_cases e : j = a
      · subst e; exact hc
      · exact eL_in t m (a + 1) j (by omega) h2
    · omega
theorem sb_lo : ∀ c, c < 256 → c < 128 → sb_b c = nI c := by decide +kernel
theorem sb_hi : ∀ c, c < 256 → ¬ c < 128 → sb_b c < nI 0 := by decide +kernel
theorem sb_eq {c : Nat} (h : c < 256) (k : Nat) (hk : k < 128) : sb_b c = nI k ↔ c = k := by
  by_cases hc : c < 128
  · rw [sb_lo c h hc]; exact nI_eq (by omega) (by omega)
  · refine ⟨fun e => absurd (sb_hi c h hc) (by rw [e]; exact fun z => nI_pos (n := k) (by omega) z), fun e => absurd e (by omega)⟩
theorem sb_hl {c k : Nat} (h : c < 256) (hc : ¬ c < 128) (hk : k < 1000) : sb_b c < nI k := Int32.lt_of_lt_of_le (sb_hi c h hc) (nI_le (Nat.zero_le k) (by omega))
def wb (i : Nat) : List Nat := match i with
  | 0 => [113, 117, 101, 117, 101]
  | 1 => [112, 117, 115, 104]
  | 2 => [112, 111, 112]
  | _ => [112, 97, 99, 101]
theorem wb_ok : ∀ i, i < 4 → (gBytes i).length = (wb i).length ∧ (wb i).length < 6 ∧ ∀ j, j < (wb i).length → (gBytes i).getD j 0 = nI ((wb i).getD j 0) ∧ (wb i).getD j 0 < 128 := by
  intro i hi
  rcases (show i = 0 ∨ i = 1 ∨ i = 2 ∨ i = 3 by omega) with rfl | rfl | rfl | rfl <;> decide
def mtF (t : Nat → Nat) (i s : Nat) : Nat → Nat → Bool
  | 0, _ => true
  | m + 1, j => if t (s + j) = (wb i).getD j 0 then mtF t i s m (j + 1) else false
def isW (t : Nat → Nat) (i s e : Nat) : Bool := if e - s = (wb i).length then mtF t i s (wb i).length 0 else false
def wkd (t : Nat → Nat) (s e : Nat) : Nat := if isW t 0 s e = true then 4 else if isW t 1 s e = true then 5 else if isW t 2 s e = true then 6 else if isW t 3 s e = true then 7 else 1
set_option maxHeartbeats 4000000 in
set_option maxRecDepth 100000 in
theorem c_X3_isDigit (G : gG) (z0 : Nat) (l : Launch) {h : gH} {c : Nat} (h256 : c < 256) : gC G z0 l yX3_isDigit wsX3_isDigit 0 0 [.int (sb_b c)] h (fun v h' => v = some (.int (if 48 ≤ c ∧ c ≤ 57 then nI 1 else nI 0)) ∧ h' = h) 0 0 := by
  by_cases hc : c < 128
  · rw [sb_lo c h256 hc]
    refine gC_of (cc := cX3_isDigit) (nL := 1) (ret := (some .boolean)) (by decide) rfl (Nat.le_of_ble_eq_true rfl) ?_
    intro X F E _
    change gF G z0 X cX3_isDigit 1 RX3 wsX3_isDigit (some .boolean) "isDigit" 0 0 _ _ at F
    show gV G z0 X 0 0 h 0 [(0, .int (nI c))] []
    refine v_iload_n (pc' := 1) F dX3_isDigit_0 rfl (j := 0) rfl rfl ?_
    refine v_bipush (pc' := 3) (v := nI 48) F dX3_isDigit_1 (by decide) rfl ?_
    refine w_icmp_lt (tgt := 16) (pc' := 6) F (by omega) (by omega) dX3_isDigit_3 (by decide) rfl (fun c1 => ?_) (fun c1 => ?_)
    · refine v_iconst (pc' := 17) (v := nI 0) F dX3_isDigit_16 (by decide) rfl ?_
      refine v_zret F E (by omega) (by omega) (by decide) dX3_isDigit_17 ?_
      exact ⟨by rw [if_neg (by omega)], rfl⟩
    · refine v_iload_n (pc' := 7) F dX3_isDigit_6 rfl (j := 0) rfl rfl ?_
      refine v_bipush (pc' := 9) (v := nI 57) F dX3_isDigit_7 (by decide) rfl ?_
      refine w_icmp_gt (tgt := 16) (pc' := 12) F (by omega) (by omega) dX3_isDigit_9 (by decide) rfl (fun c2 => ?_) (fun c2 => ?_)
      · refine v_iconst (pc' := 17) (v := nI 0) F dX3_isDigit_16 (by decide) rfl ?_
        refine v_zret F E (by omega) (by omega) (by decide) dX3_isDigit_17 ?_
        exact ⟨by rw [if_neg (by omega)], rfl⟩
      · refine v_iconst (pc' := 13) (v := nI 1) F dX3_isDigit_12 (by decide) rfl ?_
        refine v_goto (tgt := 17) F dX3_isDigit_13 (by decide) ?_
        refine v_zret F E (by omega) (by omega) (by decide) dX3_isDigit_17 ?_
        exact ⟨by rw [if_pos (by omega)], rfl⟩
  · have hc2 := hc
    refine gC_of (cc := cX3_isDigit) (nL := 1) (ret := (some .boolean)) (by decide) rfl (Nat.le_of_ble_eq_true rfl) ?_
    intro X F E _
    change gF G z0 X cX3_isDigit 1 RX3 wsX3_isDigit (some .boolean) "isDigit" 0 0 _ _ at F
    show gV G z0 X 0 0 h 0 [(0, .int (sb_b c))] []
    refine v_iload_n (pc' := 1) F dX3_isDigit_0 rfl (j := 0) rfl rfl ?_
    refine v_bipush (pc' := 3) (v := nI 48) F dX3_isDigit_1 (by decide) rfl ?_
    refine v_icmp_lt (tgt := 16) (pc' := 6) F dX3_isDigit_3 (by decide) rfl (fun _ => ?_) (fun c0 => absurd (sb_hl h256 hc (by omega)) c0)
    refine v_iconst (pc' := 17) (v := nI 0) F dX3_isDigit_16 (by decide) rfl ?_
    refine v_zret F E (by omega) (by omega) (by decide) dX3_isDigit_17 ?_
    exact ⟨by rw [if_neg (by omega)], rfl⟩
set_option maxHeartbeats 4000000 in
set_option maxRecDepth 100000 in
theorem c_X3_isLetter (G : gG) (z0 : Nat) (l : Launch) {h : gH} {c : Nat} (h256 : c < 256) : gC G z0 l yX3_isLetter wsX3_isLetter 0 0 [.int (sb_b c)] h (fun v h' => v = some (.int (if 97 ≤ c ∧ c ≤ 122 then nI 1 else nI 0)) ∧ h' = h) 0 0 := by
  by_cases hc : c < 128
  · rw [sb_lo c h256 hc]
    refine gC_of (cc := cX3_isLetter) (nL := 1) (ret := (some .boolean)) (by decide) rfl (Nat.le_of_ble_eq_true rfl) ?_
    intro X F E _
    change gF G z0 X cX3_isLetter 1 RX3 wsX3_isLetter (some .boolean) "isLetter" 0 0 _ _ at F
    show gV G z0 X 0 0 h 0 [(0, .int (nI c))] []
    refine v_iload_n (pc' := 1) F dX3_isLetter_0 rfl (j := 0) rfl rfl ?_
    refine v_bipush (pc' := 3) (v := nI 97) F dX3_isLetter_1 (by decide) rfl ?_
    refine w_icmp_lt (tgt := 16) (pc' := 6) F (by omega) (by omega) dX3_isLetter_3 (by decide) rfl (fun c1 => ?_) (fun c1 => ?_)
    · refine v_iconst (pc' := 17) (v := nI 0) F dX3_isLetter_16 (by decide) rfl ?_
      refine v_zret F E (by omega) (by omega) (by decide) dX3_isLetter_17 ?_
      exact ⟨by rw [if_neg (by omega)], rfl⟩
    · refine v_iload_n (pc' := 7) F dX3_isLetter_6 rfl (j := 0) rfl rfl ?_
      refine v_bipush (pc' := 9) (v := nI 122) F dX3_isLetter_7 (by decide) rfl ?_
      refine w_icmp_gt (tgt := 16) (pc' := 12) F (by omega) (by omega) dX3_isLetter_9 (by decide) rfl (fun c2 => ?_) (fun c2 => ?_)
      · refine v_iconst (pc' := 17) (v := nI 0) F dX3_isLetter_16 (by decide) rfl ?_
        refine v_zret F E (by omega) (by omega) (by decide) dX3_isLetter_17 ?_
        exact ⟨by rw [if_neg (by omega)], rfl⟩
      · refine v_iconst (pc' := 13) (v := nI 1) F dX3_isLetter_12 (by decide) rfl ?_
        refine v_goto (tgt := 17) F dX3_isLetter_13 (by decide) ?_
        refine v_zret F E (by omega) (by omega) (by decide) dX3_isLetter_17 ?_
        exact ⟨by rw [if_pos (by omega)], rfl⟩
  · have hc2 := hc
    refine gC_of (cc := cX3_isLetter) (nL := 1) (ret := (some .boolean)) (by decide) rfl (Nat.le_of_ble_eq_true rfl) ?_
    intro X F E _
    change gF G z0 X cX3_isLetter 1 RX3 wsX3_isLetter (some .boolean) "isLetter" 0 0 _ _ at F
    show gV G z0 X 0 0 h 0 [(0, .int (sb_b c))] []
    refine v_iload_n (pc' := 1) F dX3_isLetter_0 rfl (j := 0) rfl rfl ?_
    refine v_bipush (pc' := 3) (v := nI 97) F dX3_isLetter_1 (by decide) rfl ?_
    refine v_icmp_lt (tgt := 16) (pc' := 6) F dX3_isLetter_3 (by decide) rfl (fun _ => ?_) (fun c0 => absurd (sb_hl h256 hc (by omega)) c0)
    refine v_iconst (pc' := 17) (v := nI 0) F dX3_isLetter_16 (by decide) rfl ?_
    refine v_zret F E (by omega) (by omega) (by decide) dX3_isLetter_17 ?_
    exact ⟨by rw [if_neg (by omega)], rfl⟩
theorem hv_J0_length_8abf5 : yJ0_length_8abf5.cls = RJ0 ∧ yJ0_length_8abf5.cls ≠ "java/lang/invoke/MethodHandle" ∧ yJ0_length_8abf5.cls ≠ "java/lang/invoke/VarHandle" ∧ (parseMethodDescriptor yJ0_length_8abf5.desc).map (fun d => d.parameters.length) = some 0 := by decide +kernel
theorem k_X3_isWord_3 : gCl wsX3_isWord 3 RX3 TX3 10 := ⟨by decide +kernel, rfl⟩
theorem m_X3_isWord_f15 : Cond.fieldLink RX3 15 "SteadyQueues$SetupReader" "text" "[B" ∈ wsX3_isWord := by decide +kernel
theorem m_X3_isWord_f32 : Cond.fieldLink RX3 32 "SteadyQueues$SetupReader" "start" "I" ∈ wsX3_isWord := by decide +kernel
theorem hv_J0_charAt_5068e : yJ0_charAt_5068e.cls = RJ0 ∧ yJ0_charAt_5068e.cls ≠ "java/lang/invoke/MethodHandle" ∧ yJ0_charAt_5068e.cls ≠ "java/lang/invoke/VarHandle" ∧ (parseMethodDescriptor yJ0_charAt_5068e.desc).map (fun d => d.parameters.length) = some 1 := by decide +kernel
set_option maxHeartbeats 4000000 in
set_option maxRecDepth 100000 in
theorem lp_X3_isWord {G : gG} {z0 : Nat} {X : gX} {post : Option Value → gH → Prop} {mc ms cells slots m j e s kd nu i : Nat} {h : gH} {rd buf len b may : Nat} {er off : Int32} {t : Nat → Nat} {f : Nat → Int32} (F : gF G z0 X cX3_isWord 3 RX3 wsX3_isWord (some .boolean) "isWord" 4 85 mc ms) (E : gE G z0 X post mc ms) (hcc : cells ≤ mc) (hss : slots ≤ ms) (hi : i < 4) (hlen : len ≤ 500) (hmay : may ≤ 1) (hbuf : h buf = some (oB G 500 f)) (ht : ∀ j, j < len → f j = sb_b (t j) ∧ t j < 256) (hr : h rd = some (.inr (3, [.int off, .ref buf, .int (nI len), .ref b, .int er, .int (nI e), .int (nI s), .int (nI kd), .int (nI nu), .int (nI may)]))) (hel : e ≤ len) (hse : e - s = (wb i).length) (hsl : s ≤ e) (hLt : ∀ j, s ≤ j → j < e → 97 ≤ t j ∧ t j ≤ 122) (hj : j + m = (wb i).length) (hp : post (some (.int (if mtF t i s m j = true then nI 1 else nI 0))) h) : gV G z0 X cells slots h 20 [(2, .int (nI j)), (1, .ref (G.2.2 i)), (0, .ref rd)] [] := by
  induction m generalizing j with
  | zero =>
    have hw := wb_ok i hi
    refine v_iload_n (pc' := 21) F dX3_isWord_20 rfl (j := 0) rfl rfl ?_
    refine v_aload_n (pc' := 22) F dX3_isWord_21 rfl (j := 1) rfl rfl ?_
    refine v_callVS (pc' := 25) (rt := (some .int)) (mcc := 0) (msc := 0) (As := []) (st := [.int (nI j)]) F (fun l => c_J0_length_8abf5 G z0 l hi) gX3_isWord_J0_length_8abf5 rfl hv_J0_length_8abf5 (by decide) (by decide) hi rfl rfl (Nat.le_of_ble_eq_true rfl) (by omega) (by omega) dX3_isWord_22 rfl (fun v1 h hq => ?_)
    obtain ⟨rfl, rfl⟩ := hq
    rw [hw.1]
    refine w_icmp_ge (tgt := 55) (pc' := 28) F (by omega) (by omega) dX3_isWord_25 (by decide) rfl (fun _ => ?_) (fun c0 => absurd c0 (by omega))
    refine v_iconst (pc' := 56) (v := nI 1) F dX3_isWord_55 (by decide) rfl ?_
    refine v_zret F E (by omega) (by omega) (by decide) dX3_isWord_56 ?_
    exact hp
  | succ m ih =>
    have hw := wb_ok i hi
    refine v_iload_n (pc' := 21) F dX3_isWord_20 rfl (j := 0) rfl rfl ?_
    refine v_aload_n (pc' := 22) F dX3_isWord_21 rfl (j := 1) rfl rfl ?_
    refine v_callVS (pc' := 25) (rt := (some .int)) (mcc := 0) (msc := 0) (As := []) (st := [.int (nI j)]) F (fun l => c_J0_length_8abf5 G z0 l hi) gX3_isWord_J0_length_8abf5 rfl hv_J0_length_8abf5 (by decide) (by decide) hi rfl rfl (Nat.le_of_ble_eq_true rfl) (by omega) (by omega) dX3_isWord_22 rfl (fun v1 h hq => ?_)
    obtain ⟨rfl, rfl⟩ := hq
    rw [hw.1]
    refine w_icmp_ge (tgt := 55) (pc' := 28) F (by omega) (by omega) dX3_isWord_25 (by decide) rfl (fun c0 => absurd c0 (by omega)) (fun _ => ?_)
    have hlt := hLt (s + j) (by omega) (by omega)
    have hfs : f (s + j) = nI (t (s + j)) := by rw [(ht (s + j) (by omega)).1, sb_lo _ (ht (s + j) (by omega)).2 (by omega)]
    have hwj := (hw.2.2 j (by omega)).2
    refine v_aload_n (pc' := 29) F dX3_isWord_28 rfl (j := 2) rfl rfl ?_
    refine v_getf (pc' := 32) (v := .ref buf) F k_X3_isWord_3 hr 1 (by decide) m_X3_isWord_f15 rfl dX3_isWord_29 rfl ?_
    refine v_aload_n (pc' := 33) F dX3_isWord_32 rfl (j := 2) rfl rfl ?_
    refine v_getf (pc' := 36) (v := .int (nI s)) F k_X3_isWord_3 hr 6 (by decide) m_X3_isWord_f32 rfl dX3_isWord_33 rfl ?_
    refine v_iload_n (pc' := 37) F dX3_isWord_36 rfl (j := 0) rfl rfl ?_
    refine v_iadd (pc' := 38) (v := nI (s + j)) F dX3_isWord_37 (nI_add s j) rfl ?_
    refine w_bald (pc' := 39) (v := nI (t (s + j))) F hbuf (by omega) (by omega) hfs dX3_isWord_38 rfl ?_
    refine v_aload_n (pc' := 40) F dX3_isWord_39 rfl (j := 1) rfl rfl ?_
    refine v_iload_n (pc' := 41) F dX3_isWord_40 rfl (j := 0) rfl rfl ?_
    refine v_callVS (pc' := 44) (rt := (some .char)) (mcc := 0) (msc := 0) (As := [.int (nI j)]) (st := [.int (nI (t (s + j)))]) F (fun l => c_J0_charAt_5068e G z0 l hi (by rw [hw.1]; omega)) gX3_isWord_J0_charAt_5068e rfl hv_J0_charAt_5068e (by decide) (by decide) hi rfl rfl (Nat.le_of_ble_eq_true rfl) (by omega) (by omega) dX3_isWord_41 rfl (fun v2 h hq => ?_)
    obtain ⟨rfl, rfl⟩ := hq
    rw [(hw.2.2 j (by omega)).1]
    refine w_icmp_eq (tgt := 49) (pc' := 47) F (by omega) (by omega) dX3_isWord_44 (by decide) rfl (fun c0 => ?_) (fun c0 => ?_)
    · refine v_iinc (pc' := 52) (j := 0) (x := nI j) (v := nI (j + 1)) (L' := [(2, .int (nI (j + 1))), (1, .ref (G.2.2 i)), (0, .ref rd)]) F dX3_isWord_49 rfl (nI_add j 1) (by decide) rfl rfl ?_
      refine v_goto (tgt := 20) F dX3_isWord_52 (by decide) ?_
      refine v_sub (L' := [(2, .int (nI (j + 1))), (1, .ref (G.2.2 i)), (0, .ref rd)]) [0, 1, 2] rfl ?_
      exact ih (j := j + 1) (by omega) (by unfold mtF at hp; rw [if_pos c0] at hp; exact hp)
    · refine v_iconst (pc' := 48) (v := nI 0) F dX3_isWord_47 (by decide) rfl ?_
      refine v_zret F E (by omega) (by omega) (by decide) dX3_isWord_48 ?_
      unfold mtF at hp; rw [if_neg c0] at hp; exact hp
theorem m_X3_isWord_f29 : Cond.fieldLink RX3 29 "SteadyQueues$SetupReader" "at" "I" ∈ wsX3_isWord := by decide +kernel
set_option maxHeartbeats 4000000 in
set_option maxRecDepth 100000 in
theorem c_X3_isWord (G : gG) (z0 : Nat) (l : Launch) {h : gH} {rd buf len b may : Nat} {er off : Int32} {t : Nat → Nat} {f : Nat → Int32} {e s kd nu i : Nat} (hi : i < 4) (hlen : len ≤ 500) (hmay : may ≤ 1) (hbuf : h buf = some (oB G 500 f)) (ht : ∀ j, j < len → f j = sb_b (t j) ∧ t j < 256) (hr : h rd = some (.inr (3, [.int off, .ref buf, .int (nI len), .ref b, .int er, .int (nI e), .int (nI s), .int (nI kd), .int (nI nu), .int (nI may)]))) (hel : e ≤ len) (hsl : s ≤ e) (hLt : ∀ j, s ≤ j → j < e → 97 ≤ t j ∧ t j ≤ 122) : gC G z0 l yX3_isWord wsX3_isWord 4 85 [.ref rd, .ref (G.2.2 i)] h (fun v h' => v = some (.int (if isW t i s e = true then nI 1 else nI 0)) ∧ h' = h) 0 0 := by
  have hw := wb_ok i hi
  refine gC_of (cc := cX3_isWord) (nL := 3) (ret := (some .boolean)) (by decide) rfl (Nat.le_of_ble_eq_true rfl) ?_
  intro X F E _
  change gF G z0 X cX3_isWord 3 RX3 wsX3_isWord (some .boolean) "isWord" 4 85 _ _ at F
  show gV G z0 X 0 0 h 0 [(0, .ref rd), (1, .ref (G.2.2 i))] []
  refine v_aload_n (pc' := 1) F dX3_isWord_0 rfl (j := 0) rfl rfl ?_
  refine v_getf (pc' := 4) (v := .int (nI e)) F k_X3_isWord_3 hr 5 (by decide) m_X3_isWord_f29 rfl dX3_isWord_1 rfl ?_
  refine v_aload_n (pc' := 5) F dX3_isWord_4 rfl (j := 0) rfl rfl ?_
  refine v_getf (pc' := 8) (v := .int (nI s)) F k_X3_isWord_3 hr 6 (by decide) m_X3_isWord_f32 rfl dX3_isWord_5 rfl ?_
  refine v_isub (pc' := 9) (v := nI (e - s)) F dX3_isWord_8 (g_subn (by omega) (by omega)) rfl ?_
  refine v_aload_n (pc' := 10) F dX3_isWord_9 rfl (j := 1) rfl rfl ?_
  refine v_callVS (pc' := 13) (rt := (some .int)) (mcc := 0) (msc := 0) (As := []) (st := [.int (nI (e - s))]) F (fun l => c_J0_length_8abf5 G z0 l hi) gX3_isWord_J0_length_8abf5 rfl hv_J0_length_8abf5 (by decide) (by decide) hi rfl rfl (Nat.le_of_ble_eq_true rfl) (by omega) (by omega) dX3_isWord_10 rfl (fun v1 h hq => ?_)
  obtain ⟨rfl, rfl⟩ := hq
  rw [hw.1]
  refine w_icmp_eq (tgt := 18) (pc' := 16) F (by omega) (by omega) dX3_isWord_13 (by decide) rfl (fun c0 => ?_) (fun c0 => ?_)
  · refine v_iconst (pc' := 19) (v := nI 0) F dX3_isWord_18 (by decide) rfl ?_
    refine v_istore_n (pc' := 20) (i := 2) (L' := [(2, .int (nI 0)), (0, .ref rd), (1, .ref (G.2.2 i))]) F dX3_isWord_19 rfl (by decide) rfl rfl ?_
    refine v_sub (L' := [(2, .int (nI 0)), (1, .ref (G.2.2 i)), (0, .ref rd)]) [0, 2, 1] rfl ?_
    exact lp_X3_isWord (m := (wb i).length) (j := 0) F E (by omega) (by omega) hi hlen hmay hbuf ht hr hel c0 hsl hLt (by omega) ⟨by unfold isW; rw [if_pos c0], rfl⟩
  · refine v_iconst (pc' := 17) (v := nI 0) F dX3_isWord_16 (by decide) rfl ?_
    refine v_zret F E (by omega) (by omega) (by decide) dX3_isWord_17 ?_
    exact ⟨by unfold isW; rw [if_neg c0]; rfl, rfl⟩
theorem k_X3_readNumber_3 : gCl wsX3_readNumber 3 RX3 TX3 10 := ⟨by decide +kernel, rfl⟩
theorem m_X3_readNumber_f29 : Cond.fieldLink RX3 29 "SteadyQueues$SetupReader" "at" "I" ∈ wsX3_readNumber := by decide +kernel
theorem m_X3_readNumber_f19 : Cond.fieldLink RX3 19 "SteadyQueues$SetupReader" "length" "I" ∈ wsX3_readNumber := by decide +kernel
theorem m_X3_readNumber_f15 : Cond.fieldLink RX3 15 "SteadyQueues$SetupReader" "text" "[B" ∈ wsX3_readNumber := by decide +kernel
theorem hd_X3_isDigit : yX3_isDigit.cls ≠ "java/lang/invoke/MethodHandle" ∧ yX3_isDigit.cls ≠ "java/lang/invoke/VarHandle" ∧ (parseMethodDescriptor yX3_isDigit.desc).map (fun d => d.parameters.length) = some 1 := by decide +kernel
theorem m_X3_readNumber_f38 : Cond.fieldLink RX3 38 "SteadyQueues$SetupReader" "number" "I" ∈ wsX3_readNumber := by decide +kernel
theorem m_X3_readNumber_ml45 : Cond.methodLink RX3 45 Lib.Math.min.name ∈ wsX3_readNumber := by decide +kernel
theorem m_X3_readNumber_msmin : Cond.static Lib.Math.min.name ∈ wsX3_readNumber := by decide +kernel
theorem m_X3_readNumber_mi : Cond.initialized "java/lang/Math" ∈ wsX3_readNumber := by decide +kernel
theorem m_X3_readNumber_mcmin : Cond.code Lib.Math.min.name Lib.Math.min.code 2 (some .int) ∈ wsX3_readNumber := by decide +kernel
set_option maxHeartbeats 4000000 in
set_option maxRecDepth 100000 in
theorem lp_X3_readNumber {G : gG} {z0 : Nat} {X : gX} {post : Option Value → gH → Prop} {mc ms cells slots m a v s : Nat} {h : gH} {rd buf len b may : Nat} {er off : Int32} {t : Nat → Nat} {f : Nat → Int32} (F : gF G z0 X cX3_readNumber 1 RX3 wsX3_readNumber none "readNumber" 1 21 mc ms) (E : gE G z0 X post mc ms) (hcc : cells ≤ mc) (hss : slots ≤ ms) (hlen : len ≤ 500) (hmay : may ≤ 1) (hbuf : h buf = some (oB G 500 f)) (ht : ∀ j, j < len → f j = sb_b (t j) ∧ t j < 256) (hr : h rd = some (.inr (3, [.int off, .ref buf, .int (nI len), .ref b, .int er, .int (nI a), .int (nI s), .int (nI 2), .int (nI (min 1000 v)), .int (nI may)]))) (ha : a + m = len) (hp : ∀ h', h' rd = some (.inr (3, [.int off, .ref buf, .int (nI len), .ref b, .int er, .int (nI (eD t m a)), .int (nI s), .int (nI 2), .int (nI (min 1000 (vD t m a v))), .int (nI may)])) → gfr [rd] h h' → post none h') : gV G z0 X cells slots h 10 [(0, .ref rd)] [] := by
  induction m generalizing a v h with
  | zero =>
    refine v_aload_n (pc' := 11) F dX3_readNumber_10 rfl (j := 0) rfl rfl ?_
    refine v_getf (pc' := 14) (v := .int (nI a)) F k_X3_readNumber_3 hr 5 (by decide) m_X3_readNumber_f29 rfl dX3_readNumber_11 rfl ?_
    refine v_aload_n (pc' := 15) F dX3_readNumber_14 rfl (j := 0) rfl rfl ?_
    refine v_getf (pc' := 18) (v := .int (nI len)) F k_X3_readNumber_3 hr 2 (by decide) m_X3_readNumber_f19 rfl dX3_readNumber_15 rfl ?_
    refine w_icmp_ge (tgt := 79) (pc' := 21) F (by omega) (by omega) dX3_readNumber_18 (by decide) rfl (fun _ => ?_) (fun c0 => absurd c0 (by omega))
    exact v_vret F E (by omega) (by omega)  dX3_readNumber_79 (hp h hr gfr.rf)
  | succ m ih =>
    have h256 := (ht a (by omega)).2
    refine v_aload_n (pc' := 11) F dX3_readNumber_10 rfl (j := 0) rfl rfl ?_
    refine v_getf (pc' := 14) (v := .int (nI a)) F k_X3_readNumber_3 hr 5 (by decide) m_X3_readNumber_f29 rfl dX3_readNumber_11 rfl ?_
    refine v_aload_n (pc' := 15) F dX3_readNumber_14 rfl (j := 0) rfl rfl ?_
    refine v_getf (pc' := 18) (v := .int (nI len)) F k_X3_readNumber_3 hr 2 (by decide) m_X3_readNumber_f19 rfl dX3_readNumber_15 rfl ?_
    refine w_icmp_ge (tgt := 79) (pc' := 21) F (by omega) (by omega) dX3_readNumber_18 (by decide) rfl (fun c0 => absurd c0 (by omega)) (fun _ => ?_)
    refine v_aload_n (pc' := 22) F dX3_readNumber_21 rfl (j := 0) rfl rfl ?_
    refine v_getf (pc' := 25) (v := .ref buf) F k_X3_readNumber_3 hr 1 (by decide) m_X3_readNumber_f15 rfl dX3_readNumber_22 rfl ?_
    refine v_aload_n (pc' := 26) F dX3_readNumber_25 rfl (j := 0) rfl rfl ?_
    refine v_getf (pc' := 29) (v := .int (nI a)) F k_X3_readNumber_3 hr 5 (by decide) m_X3_readNumber_f29 rfl dX3_readNumber_26 rfl ?_
    refine w_bald (pc' := 30) (v := sb_b (t a)) F hbuf (by omega) (by omega) (ht a (by omega)).1 dX3_readNumber_29 rfl ?_
    refine v_callS (pc' := 33) (rt := (some .boolean)) (mcc := 0) (msc := 0) (As := [.int (sb_b (t a))]) (st := []) F (fun l => c_X3_isDigit G z0 l h256) gX3_readNumber_X3_isDigit rfl hd_X3_isDigit (by decide) (by decide) rfl rfl (Nat.le_of_ble_eq_true rfl) (by omega) (by omega) dX3_readNumber_30 rfl (fun v1 h hq => ?_)
    obtain ⟨rfl, rfl⟩ := hq
    by_cases hd : 48 ≤ t a ∧ t a ≤ 57
    · rw [if_pos hd]
      refine w_if_eq (tgt := 79) (pc' := 36) F (by omega) dX3_readNumber_33 (by decide) rfl (fun c0 => absurd c0 (by omega)) (fun _ => ?_)
      have hfa : f a = nI (t a) := by rw [(ht a (by omega)).1, sb_lo _ h256 (by omega)]
      refine v_aload_n (pc' := 37) F dX3_readNumber_36 rfl (j := 0) rfl rfl ?_
      refine v_sipush (pc' := 40) (v := nI 1000) F dX3_readNumber_37 (by decide) rfl ?_
      refine v_bipush (pc' := 42) (v := nI 10) F dX3_readNumber_40 (by decide) rfl ?_
      refine v_aload_n (pc' := 43) F dX3_readNumber_42 rfl (j := 0) rfl rfl ?_
      refine v_getf (pc' := 46) (v := .int (nI (min 1000 v))) F k_X3_readNumber_3 hr 8 (by decide) m_X3_readNumber_f38 rfl dX3_readNumber_43 rfl ?_
      refine v_imul (pc' := 47) (v := nI (10 * (min 1000 v))) F dX3_readNumber_46 (pk_mul 10 (min 1000 v)) rfl ?_
      refine v_aload_n (pc' := 48) F dX3_readNumber_47 rfl (j := 0) rfl rfl ?_
      refine v_getf (pc' := 51) (v := .ref buf) F k_X3_readNumber_3 hr 1 (by decide) m_X3_readNumber_f15 rfl dX3_readNumber_48 rfl ?_
      refine v_aload_n (pc' := 52) F dX3_readNumber_51 rfl (j := 0) rfl rfl ?_
      refine v_getf (pc' := 55) (v := .int (nI a)) F k_X3_readNumber_3 hr 5 (by decide) m_X3_readNumber_f29 rfl dX3_readNumber_52 rfl ?_
      refine w_bald (pc' := 56) (v := nI (t a)) F hbuf (by omega) (by omega) hfa dX3_readNumber_55 rfl ?_
      refine v_iadd (pc' := 57) (v := nI (10 * (min 1000 v) + (t a))) F dX3_readNumber_56 (nI_add (10 * (min 1000 v)) (t a)) rfl ?_
      refine v_bipush (pc' := 59) (v := nI 48) F dX3_readNumber_57 (by decide) rfl ?_
      refine v_isub (pc' := 60) (v := nI (10 * (min 1000 v) + (t a) - 48)) F dX3_readNumber_59 (g_subn (by omega) (by omega)) rfl ?_
      refine v_mmin (pc' := 63) (v := nI (min 1000 (10 * (min 1000 v) + (t a) - 48))) F m_X3_readNumber_ml45 m_X3_readNumber_msmin m_X3_readNumber_mi m_X3_readNumber_mcmin (by decide) (Nat.le_of_ble_eq_true rfl) (by omega) (by omega) (g_minn (by omega) (by omega)) dX3_readNumber_60 rfl ?_
      refine w_putf (pc' := 66) F k_X3_readNumber_3 tyX3_ok nmX3 hr 8 (by decide) m_X3_readNumber_f38 rfl  rfl rfl (show 8 < 10 by decide) [.int off, .ref buf, .int (nI len), .ref b, .int er, .int (nI a), .int (nI s), .int (nI 2), .int (nI (min 1000 (10 * (min 1000 v) + (t a) - 48))), .int (nI may)] rfl dX3_readNumber_63 rfl (fun h2 a3 f4 => ?_)
      refine v_aload_n (pc' := 67) F dX3_readNumber_66 rfl (j := 0) rfl rfl ?_
      refine v_dup (pc' := 68) F dX3_readNumber_67 rfl rfl ?_
      refine v_getf (pc' := 71) (v := .int (nI a)) F k_X3_readNumber_3 a3 5 (by decide) m_X3_readNumber_f29 rfl dX3_readNumber_68 rfl ?_
      refine v_iconst (pc' := 72) (v := nI 1) F dX3_readNumber_71 (by decide) rfl ?_
      refine v_iadd (pc' := 73) (v := nI (a + 1)) F dX3_readNumber_72 (nI_add a 1) rfl ?_
      refine w_putf (pc' := 76) F k_X3_readNumber_3 tyX3_ok nmX3 a3 5 (by decide) m_X3_readNumber_f29 rfl  rfl rfl (show 5 < 10 by decide) [.int off, .ref buf, .int (nI len), .ref b, .int er, .int (nI (a + 1)), .int (nI s), .int (nI 2), .int (nI (min 1000 (10 * (min 1000 v) + (t a) - 48))), .int (nI may)] rfl dX3_readNumber_73 rfl (fun h5 a6 f7 => ?_)
      refine v_goto (tgt := 10) F dX3_readNumber_76 (by decide) ?_
      have fr8 : gfr [rd] h h5 := (gfr.t f4 f7)
      have g9 := f4 _ _ (gnc (Ne.symm (g_neA hr hbuf)) gn0) hbuf
      have g10 := f7 _ _ (gnc (Ne.symm (g_neA a3 g9)) gn0) g9
      exact ih (a := a + 1) (v := 10 * v + (t a - 48)) g10 (by rw [show min 1000 (10 * v + (t a - 48)) = min 1000 (10 * (min 1000 v) + (t a) - 48) by omega]; exact a6) (by omega) (fun h9 k9 f9 => hp h9 (by unfold eD vD; rw [if_pos hd, if_pos hd]; exact k9) (gfr.t fr8 f9))
    · rw [if_neg hd]
      refine w_if_eq (tgt := 79) (pc' := 36) F (by omega) dX3_readNumber_33 (by decide) rfl (fun _ => ?_) (fun c0 => absurd rfl c0)
      exact v_vret F E (by omega) (by omega)  dX3_readNumber_79 (hp h (by unfold eD vD; rw [if_neg hd, if_neg hd]; exact hr) gfr.rf)
theorem m_X3_readNumber_f35 : Cond.fieldLink RX3 35 "SteadyQueues$SetupReader" "kind" "I" ∈ wsX3_readNumber := by decide +kernel
set_option maxHeartbeats 4000000 in
set_option maxRecDepth 100000 in
theorem c_X3_readNumber (G : gG) (z0 : Nat) (l : Launch) {h : gH} {rd buf len b may : Nat} {er off : Int32} {t : Nat → Nat} {f : Nat → Int32} {a s kd nu : Nat} (hlen : len ≤ 500) (hmay : may ≤ 1) (hbuf : h buf = some (oB G 500 f)) (ht : ∀ j, j < len → f j = sb_b (t j) ∧ t j < 256) (hr : h rd = some (.inr (3, [.int off, .ref buf, .int (nI len), .ref b, .int er, .int (nI a), .int (nI s), .int (nI kd), .int (nI nu), .int (nI may)]))) (hal : a ≤ len) : gC G z0 l yX3_readNumber wsX3_readNumber 1 21 [.ref rd] h (fun v h' => v = none ∧ h' rd = some (.inr (3, [.int off, .ref buf, .int (nI len), .ref b, .int er, .int (nI (eD t (len - a) a)), .int (nI s), .int (nI 2), .int (nI (min 1000 (vD t (len - a) a 0))), .int (nI may)])) ∧ gfr [rd] h h') 0 0 := by
  refine gC_of (cc := cX3_readNumber) (nL := 1) (ret := none) (by decide) rfl (Nat.le_of_ble_eq_true rfl) ?_
  intro X F E _
  change gF G z0 X cX3_readNumber 1 RX3 wsX3_readNumber none "readNumber" 1 21 _ _ at F
  show gV G z0 X 0 0 h 0 [(0, .ref rd)] []
  refine v_aload_n (pc' := 1) F dX3_readNumber_0 rfl (j := 0) rfl rfl ?_
  refine v_iconst (pc' := 2) (v := nI 2) F dX3_readNumber_1 (by decide) rfl ?_
  refine w_putf (pc' := 5) F k_X3_readNumber_3 tyX3_ok nmX3 hr 7 (by decide) m_X3_readNumber_f35 rfl  rfl rfl (show 7 < 10 by decide) [.int off, .ref buf, .int (nI len), .ref b, .int er, .int (nI a), .int (nI s), .int (nI 2), .int (nI nu), .int (nI may)] rfl dX3_readNumber_2 rfl (fun h1 a2 f3 => ?_)
  refine v_aload_n (pc' := 6) F dX3_readNumber_5 rfl (j := 0) rfl rfl ?_
  refine v_iconst (pc' := 7) (v := nI 0) F dX3_readNumber_6 (by decide) rfl ?_
  refine w_putf (pc' := 10) F k_X3_readNumber_3 tyX3_ok nmX3 a2 8 (by decide) m_X3_readNumber_f38 rfl  rfl rfl (show 8 < 10 by decide) [.int off, .ref buf, .int (nI len), .ref b, .int er, .int (nI a), .int (nI s), .int (nI 2), .int (nI 0), .int (nI may)] rfl dX3_readNumber_7 rfl (fun h4 a5 f6 => ?_)
  have g7 := f3 _ _ (gnc (Ne.symm (g_neA hr hbuf)) gn0) hbuf
  have g8 := f6 _ _ (gnc (Ne.symm (g_neA a2 g7)) gn0) g7
  have fr9 : gfr [rd] h h4 := (gfr.t f3 f6)
  exact lp_X3_readNumber (m := len - a) (v := 0) F E (by omega) (by omega) hlen hmay g8 ht a5 (by omega) (fun h9 k9 f9 => ⟨rfl, k9, gfr.t fr9 f9⟩)

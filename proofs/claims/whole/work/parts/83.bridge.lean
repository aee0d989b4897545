/-! CLASS AND REFERENCE TELL THE SAME NUMBERS -/
theorem inj_hit : ∀ (n : Nat) (f : Nat → Nat), (∀ i, i < n → f i < n) → (∀ i j, i < n → j < n → f i = f j → i = j) → ∀ p, p < n → ∃ i, i < n ∧ f i = p
  | 0, _, _, _, p, hp => absurd hp (Nat.not_lt_zero p)
  | n + 1, f, hb, hi, p, hp => by
    by_cases hpq : p = f n
    · exact ⟨n, Nat.lt_succ_self n, hpq.symm⟩
    · have hne : ∀ i, i < n → f i ≠ f n := fun i h e => by
        have := hi i n (by omega) (by omega) e
        omega
      have hqn := hb n (Nat.lt_succ_self n)
      have h1 : ∀ i, i < n → (if f i = n then f n else f i) < n := fun i h => by
        have a1 := hb i (by omega)
        have a2 := hne i h
        split <;> omega
      have h2 : ∀ i j, i < n → j < n → (if f i = n then f n else f i) = (if f j = n then f n else f j) → i = j := fun i j h h' e => by
        have a1 := hne i h
        have a2 := hne j h'
        by_cases e1 : f i = n
        · by_cases e2 : f j = n
          · exact hi i j (by omega) (by omega) (by rw [e1, e2])
          · rw [if_pos e1, if_neg e2] at e
            exact absurd e.symm a2
        · by_cases e2 : f j = n
          · rw [if_neg e1, if_pos e2] at e
            exact absurd e a1
          · rw [if_neg e1, if_neg e2] at e
            exact hi i j (by omega) (by omega) e
      by_cases hpn : p = n
      · have hq : f n < n := by omega
        obtain ⟨i, h3, h4⟩ := inj_hit n (fun i => if f i = n then f n else f i) h1 h2 (f n) hq
        refine ⟨i, by omega, ?_⟩
        by_cases e1 : f i = n
        · rw [e1, hpn]
        · simp only [if_neg e1] at h4
          exact absurd h4 (hne i h3)
      · obtain ⟨i, h3, h4⟩ := inj_hit n (fun i => if f i = n then f n else f i) h1 h2 p (by omega)
        refine ⟨i, by omega, ?_⟩
        by_cases e1 : f i = n
        · simp only [if_pos e1] at h4
          exact absurd h4.symm hpq
        · simp only [if_neg e1] at h4
          exact h4
theorem gsum_lt {f : Nat → Nat} (hf : ∀ i, f i ≤ 1) : ∀ (n k : Nat), k < n → f k = 0 → gsum f n < n
  | 0, k, h, _ => absurd h (Nat.not_lt_zero k)
  | n + 1, k, h, h0 => by
    rw [gsum_s]
    by_cases e : k = n
    · subst e
      have := gsum_b hf k
      omega
    · have := gsum_lt hf n k (by omega) h0
      have := hf n
      omega
theorem gsum_mono {f g : Nat → Nat} : ∀ (n : Nat), (∀ i, i < n → f i ≤ g i) → gsum f n ≤ gsum g n
  | 0, _ => Nat.le_refl _
  | n + 1, h => by
    have := gsum_mono n (fun i hi => h i (by omega))
    have := h n (Nat.lt_succ_self n)
    rw [gsum_s, gsum_s]
    omega
theorem gsum_less {f g : Nat → Nat} : ∀ (n k : Nat), (∀ i, i < n → f i ≤ g i) → k < n → f k < g k → gsum f n < gsum g n
  | 0, k, _, h, _ => absurd h (Nat.not_lt_zero k)
  | n + 1, k, h, hk, hl => by
    rw [gsum_s, gsum_s]
    by_cases e : k = n
    · subst e
      have := gsum_mono k (fun i hi => h i (by omega))
      omega
    · have := gsum_less n k (fun i hi => h i (by omega)) (by omega) hl
      have := h n (Nat.lt_succ_self n)
      omega
/-- the order of the ranks -/
def ahd (os : Nat → List mO) (i k : Nat) : Prop := qLen (os i) > qLen (os k) ∨ (qLen (os i) = qLen (os k) ∧ i < k)
theorem rkG_inj {n : Nat} {os : Nat → List mO} {i j : Nat} (hi : i < n) (hj : j < n) (e : rkG n os i = rkG n os j) : i = j := by
  have key : ∀ a b, a < n → b < n → ahd os a b → rkG n os a < rkG n os b := fun a b ha hb hab => by
    unfold rkG
    refine gsum_less n a (fun c hc => ?_) ha ?_
    · unfold ahd at hab
      by_cases h1 : qLen (os c) > qLen (os a) ∨ (qLen (os c) = qLen (os a) ∧ c < a)
      · rw [if_pos h1, if_pos (by omega)]
        exact Nat.le_refl _
      · rw [if_neg h1]
        exact Nat.zero_le _
    · unfold ahd at hab
      rw [if_neg (by omega), if_pos (by omega)]
      exact Nat.one_pos
  have tri : i = j ∨ ahd os i j ∨ ahd os j i := by
    unfold ahd
    omega
  rcases tri with h | h | h
  · exact h
  · have := key i j hi hj h
    omega
  · have := key j i hj hi h
    omega
theorem rkG_lt {n : Nat} {os : Nat → List mO} {i : Nat} (hi : i < n) : rkG n os i < n := by
  unfold rkG
  exact gsum_lt (fun c => by split <;> omega) n i hi (by rw [if_neg (by omega)])
theorem rkF_hit {g : Nat → Nat} {p : Nat} : ∀ (m i k : Nat), i ≤ k → k < i + m → g k = p → ∃ r, rkF g (nI p) m i = some r
  | 0, i, k, h1, h2, _ => by omega
  | m + 1, i, k, h1, h2, h3 => by
    unfold rkF
    by_cases e : nI (g i) = nI p
    · exact ⟨i, by rw [if_pos e]⟩
    · rw [if_neg e]
      have hik : i ≠ k := fun z => e (by rw [z, h3])
      exact rkF_hit m (i + 1) k (by omega) (by omega) h3
theorem rkF_no {g : Nat → Nat} {x : Int32} : ∀ (m i : Nat), (∀ k, i ≤ k → k < i + m → nI (g k) ≠ x) → rkF g x m i = none
  | 0, _, _ => rfl
  | m + 1, i, h => by
    unfold rkF
    rw [if_neg (h i (Nat.le_refl _) (by omega))]
    exact rkF_no m (i + 1) (fun k h1 h2 => h k (by omega) (by omega))
theorem rk_in {n : Nat} {os : Nat → List mO} {p : Nat} (hp : p < n) : ∃ r, rkF (rkG n os) (nI p) n 0 = some r := by
  obtain ⟨i, h1, h2⟩ := inj_hit n (rkG n os) (fun i hi => rkG_lt hi) (fun i j hi hj e => rkG_inj hi hj e) p hp
  exact rkF_hit n 0 i (Nat.zero_le _) (by omega) h2
theorem rk_out {n : Nat} {os : Nat → List mO} {x : Int32} (hx : ¬ iR x n) : rkF (rkG n os) x n 0 = none :=
  rkF_no n 0 (fun k _ h2 e => hx ⟨_, rkG_lt (by omega), e.symm⟩)
section BR
variable {G : gG} {h : gH} {b va : Nat} {D : Dt} {ad : Nat → Nat} {as : Nat → List Nat}
theorem br_head (w : wfD D) (c : clD G h b va D ad as) {i : Nat} (hi : i < D.1) : (as i).head? = (paD D i).map ad := by
  unfold paD asD
  by_cases e : i = 0
  · subst e
    rw [c.2.2.1, if_pos rfl]
    rfl
  · rw [c.2.2.2.1 i (by omega) hi, if_neg e]
    rfl
theorem br_pa (w : wfD D) (c : clD G h b va D ad as) {i j : Nat} (hi : i < D.1) (hj : j < D.1) : (as j).head? = some (ad i) ↔ paD D j = some i := by
  rw [br_head w c hj]
  unfold paD asD
  by_cases e : j = 0
  · rw [if_pos e]
    exact ⟨fun z => (by cases z), fun z => (by cases z)⟩
  · rw [if_neg e]
    have hp := (w.2.2.2.2.2 j (by omega) hj).1
    constructor
    · intro z
      have z1 : ad (D.2.2.2.1 j) = ad i := Option.some.inj z
      rw [← c.2.2.2.2 _ _ (by omega) hi z1]
      rfl
    · intro z
      have z1 : D.2.2.2.1 j = i := Option.some.inj z
      subst z1
      rfl
theorem br_ch (w : wfD D) (c : clD G h b va D ad as) {i : Nat} (hi : i < D.1) : ∀ n, n ≤ D.1 → gsum (fun j => if (as j).head? = some (ad i) then 1 else 0) n = gsum (fun j => if paD D j = some i then 1 else 0) n
  | 0, _ => rfl
  | n + 1, hn => by
    rw [gsum_s, gsum_s, br_ch w c hi n (by omega)]
    have := br_pa w c hi (show n < D.1 by omega)
    by_cases e : paD D n = some i
    · rw [if_pos e, if_pos (this.mpr e)]
    · rw [if_neg e, if_neg (fun z => e (this.mp z))]
theorem br_all (w : wfD D) (c : clD G h b va D ad as) (k : Nat) : nAll D.1 D.2.1 D.2.2.1 ad (fun i => (as i).head?) D.2.2.2.2 k = nAll D.1 D.2.1 D.2.2.1 id (fun i => (asD D i).head?) D.2.2.2.2 k := by
  unfold nAll
  split <;> try rfl
  have : ∀ n, n ≤ D.1 → gsum (fun i => if gsum (fun j => if (as j).head? = some (ad i) then 1 else 0) D.1 = 0 then 1 else 0) n = gsum (fun i => if gsum (fun j => if (asD D j).head? = some (id i) then 1 else 0) D.1 = 0 then 1 else 0) n := by
    intro n
    induction n with
    | zero => exact fun _ => rfl
    | succ n ih =>
      intro hn
      rw [gsum_s, gsum_s, ih (by omega), br_ch w c (show n < D.1 by omega) D.1 (Nat.le_refl _)]
      rfl
  exact this D.1 (Nat.le_refl _)
theorem br_fidx (w : wfD D) (c : clD G h b va D ad as) {k : Nat} (hk : k < D.1) : fidx ad (some (ad k)) D.1 0 = nI k :=
  fidx_at D.1 0 (Nat.zero_le _) (by omega) (fun j _ h3 e => by have := c.2.2.2.2 j k (by omega) hk e; omega)
theorem br_one (w : wfD D) (c : clD G h b va D ad as) {j : Nat} (hj : j < D.1) (k : Nat) : nOne D.1 ad (fun i => (as i).head?) (D.2.2.2.2 j) (as j).head? (ad j) k = nOne D.1 id (fun i => (asD D i).head?) (D.2.2.2.2 j) (asD D j).head? j k := by
  unfold nOne
  split <;> try rfl
  · rw [show (asD D j).head? = paD D j from rfl, paD_fidx w hj, br_head w c hj]
    unfold paD asD parI
    by_cases e : j = 0
    · rw [if_pos e, if_pos e]
      exact fidx_none _ _ _
    · rw [if_neg e, if_neg e]
      have hp := (w.2.2.2.2.2 j (by omega) hj).1
      exact br_fidx w c (show D.2.2.2.1 j < D.1 by omega)
  · rw [br_ch w c hj D.1 (Nat.le_refl _)]
    rfl
theorem br_al (w : wfD D) (c : clD G h b va D ad as) : ∀ (m i : Nat), i < m → i < D.1 → ad i :: as i = (alD D i).map ad ∧ ∀ y, y ∈ alD D i → y < D.1
  | 0, i, h, _ => absurd h (Nat.not_lt_zero i)
  | m + 1, i, h, hi => by
    rcases Nat.eq_zero_or_pos i with e | e
    · subst e
      rw [alD_root w, c.2.2.1]
      exact ⟨rfl, fun y hy => by rw [List.mem_singleton.mp hy]; exact hi⟩
    · obtain ⟨h1, h2, -⟩ := alD_up w e hi
      obtain ⟨h3, h4⟩ := br_al w c m (D.2.2.2.1 i) (by omega) (by omega)
      rw [h1, c.2.2.2.1 i e hi]
      refine ⟨by rw [h3]; rfl, fun y hy => ?_⟩
      rcases List.mem_cons.mp hy with z | z
      · rw [z]; exact hi
      · exact h4 y z
theorem br_com (w : wfD D) (c : clD G h b va D ad as) {ys : List Nat} (hy : ∀ y, y ∈ ys → y < D.1) : ∀ {xs : List Nat}, (∀ y, y ∈ xs → y < D.1) → comF ad D.1 (ys.map ad) (xs.map ad) = nI (cmF ys xs)
  | [], _ => rfl
  | x :: xs, hx => by
    show (if ad x ∈ ys.map ad then fidx ad (some (ad x)) D.1 0 else comF ad D.1 (ys.map ad) (xs.map ad)) = nI (if x ∈ ys then x else cmF ys xs)
    have hxD := hx x List.mem_cons_self
    have hm : ad x ∈ ys.map ad ↔ x ∈ ys := by
      constructor
      · intro z
        obtain ⟨y, h1, h2⟩ := List.mem_map.mp z
        rw [← c.2.2.2.2 y x (hy y h1) hxD h2]
        exact h1
      · exact fun z => List.mem_map.mpr ⟨x, z, rfl⟩
    by_cases e : x ∈ ys
    · rw [if_pos (hm.mpr e), if_pos e, br_fidx w c hxD]
    · rw [if_neg (fun z => e (hm.mp z)), if_neg e, br_com w c hy (fun y h => hx y (List.mem_cons_of_mem _ h))]
theorem br_common (w : wfD D) (c : clD G h b va D ad as) {j k : Nat} (hj : j < D.1) (hk : k < D.1) : comF ad D.1 (ad k :: as k) (ad j :: as j) = nI (cmF (alD D k) (alD D j)) := by
  obtain ⟨a1, a2⟩ := br_al w c (j + 1) j (Nat.lt_succ_self j) hj
  obtain ⟨b1, b2⟩ := br_al w c (k + 1) k (Nat.lt_succ_self k) hk
  rw [a1, b1]
  exact br_com w c b2 a2
theorem br_ckR (w : wfD D) (c : clD G h b va D ad as) : ∀ (m i : Nat), i + m ≤ D.1 → ckR D.1 ad as D.2.2.2.2 m i = ckR D.1 id (asD D) D.2.2.2.2 m i
  | 0, _, _ => rfl
  | m + 1, i, h => by
    rw [ckR_s, ckR_s, br_ckR w c m (i + 1) (by omega)]
    have e : oneL D.1 ad as D.2.2.2.2 i = oneL D.1 id (asD D) D.2.2.2.2 i := by
      unfold oneL
      simp only [br_one w c (show i < D.1 by omega)]
      rfl
    rw [e]
theorem br_ck (w : wfD D) (c : clD G h b va D ad as) : ckL D.1 D.2.1 D.2.2.1 ad as D.2.2.2.2 = ckL D.1 D.2.1 D.2.2.1 id (asD D) D.2.2.2.2 := by
  unfold ckL
  rw [br_ckR w c D.1 0 (by omega)]
  have e : allL D.1 D.2.1 D.2.2.1 ad as D.2.2.2.2 = allL D.1 D.2.1 D.2.2.1 id (asD D) D.2.2.2.2 := by
    unfold allL
    simp only [br_all w c]
  rw [e]
theorem allS_lt (w : wfD D) : allS D.1 D.2.2.2.2 < 253 := by
  have h1 : ∀ n, n ≤ D.1 → allS n D.2.2.2.2 ≤ 4 * (n - 1) := by
    intro n
    induction n with
    | zero => exact fun _ => Nat.le_refl _
    | succ n ih =>
      intro hn
      show gsum (fun i => (qOf (D.2.2.2.2 i)).2) (n + 1) ≤ _
      rw [gsum_s]
      have h2 := ih (by omega)
      change gsum (fun i => (qOf (D.2.2.2.2 i)).2) n ≤ _ at h2
      rcases Nat.eq_zero_or_pos n with e | e
      · subst e
        rw [w.2.2.2.2.1]
        exact Nat.le_refl _
      · have := qOf_le (w.os (show n < D.1 by omega)).1
        omega
  have := h1 D.1 (Nat.le_refl _)
  have := w.2.1
  omega
end BR

theorem fb_holes : ∀ (m n : Nat) (f : Nat → Nat), (∀ i, i < n → f i < m) → (∀ i j, i < j → j < n → f i ≠ f j) → n ≤ m := by
  intro m
  induction m with
  | zero =>
    intro n f h1 _
    rcases Nat.eq_zero_or_pos n with h | h
    · omega
    · exact absurd (h1 0 h) (Nat.not_lt_zero _)
  | succ m ih =>
    intro n f h1 h2
    by_cases hx : ∃ i, i < n ∧ f i = m
    · obtain ⟨a, ha, hfa⟩ := hx
      have hg := ih (n - 1) (fun i => if i < a then f i else f (i + 1)) (by
        intro i hi
        by_cases q : i < a
        · simp only [if_pos q]
          have b1 := h1 i (by omega)
          have b2 := h2 i a q ha
          omega
        · simp only [if_neg q]
          have b1 := h1 (i + 1) (by omega)
          have b2 := h2 a (i + 1) (by omega) (by omega)
          omega) (by
        intro i j hij hj
        by_cases q : i < a
        · by_cases r : j < a
          · simp only [if_pos q, if_pos r]
            exact h2 i j hij (by omega)
          · simp only [if_pos q, if_neg r]
            exact h2 i (j + 1) (by omega) (by omega)
        · have r : ¬ j < a := by omega
          simp only [if_neg q, if_neg r]
          exact h2 (i + 1) (j + 1) (by omega) (by omega))
      omega
    · have hg := ih n f (fun i hi => by
        have b1 := h1 i hi
        have b2 : f i ≠ m := fun e => hx ⟨i, hi, e⟩
        omega) h2
      omega
/-! squares beside -/
def bsN (W H q s : Nat) : Option Nat :=
  if s = 0 then (if 1 ≤ q / W ∧ q / W - 1 < H then some (W * (q / W - 1) + q % W) else none)
  else if s = 1 then (if 1 ≤ q % W ∧ q / W < H then some (W * (q / W) + (q % W - 1)) else none)
  else if s = 2 then (if q % W + 1 < W ∧ q / W < H then some (W * (q / W) + (q % W + 1)) else none)
  else (if q / W + 1 < H then some (W * (q / W + 1) + q % W) else none)
def besR (o : Option Nat) : Int32 := match o with
  | none => -1
  | some j => nI j
def besI (W H q s : Int32) : Int32 :=
  if (0 ≤ (q - q / W * W + (if s = 1 then -1 else if s = 2 then 1 else 0)).toInt64 ∧ (q - q / W * W + (if s = 1 then -1 else if s = 2 then 1 else 0)).toInt64 ≤ (W - 1).toInt64) ∧ (0 ≤ (q / W + (if s = 0 then -1 else if s = 3 then 1 else 0)).toInt64 ∧ (q / W + (if s = 0 then -1 else if s = 3 then 1 else 0)).toInt64 ≤ (H - 1).toInt64)
  then W * (q / W + (if s = 0 then -1 else if s = 3 then 1 else 0)) + (q - q / W * W + (if s = 1 then -1 else if s = 2 then 1 else 0)) else -1
def besAll : Bool := (List.range 7).all fun W => (List.range 7).all fun H => (List.range 36).all fun q => (List.range 4).all fun s => decide (W < 2) || (decide (H < 2) || decide (besI (nI W) (nI H) (nI q) (nI s) = besR (bsN W H q s)))
def bsAll : Bool := (List.range 7).all fun W => (List.range 7).all fun H => (List.range 36).all fun q => (List.range 4).all fun s => decide (W < 2) || (decide (H < 2) || (match bsN W H q s with | none => true | some j => decide (j < W * H) && (!decide (q < W * H) || decide (bsN W H j (3 - s) = some q))))
set_option maxRecDepth 100000 in
theorem besAll_ok : besAll = true := by decide +kernel
set_option maxRecDepth 100000 in
theorem bsAll_ok : bsAll = true := by decide +kernel
theorem all4 {P : Nat → Nat → Nat → Nat → Bool} (h : ((List.range 7).all fun W => (List.range 7).all fun H => (List.range 36).all fun q => (List.range 4).all fun s => P W H q s) = true) {W H q s : Nat} (hW : W < 7) (hH : H < 7) (hq : q < 36) (hs : s < 4) : P W H q s = true := by
  rw [List.all_eq_true] at h
  have h1 := h W (List.mem_range.mpr hW)
  rw [List.all_eq_true] at h1
  have h2 := h1 H (List.mem_range.mpr hH)
  rw [List.all_eq_true] at h2
  have h3 := h2 q (List.mem_range.mpr hq)
  rw [List.all_eq_true] at h3
  exact h3 s (List.mem_range.mpr hs)
theorem or3 {W H : Nat} {b : Bool} (hW : 2 ≤ W) (hH : 2 ≤ H) (h : (decide (W < 2) || (decide (H < 2) || b)) = true) : b = true := by
  rw [Bool.or_eq_true, Bool.or_eq_true, decide_eq_true_eq, decide_eq_true_eq] at h
  rcases h with h | h | h
  · omega
  · omega
  · exact h
theorem besT (W : Nat) (hW : W < 7) (H : Nat) (hH : H < 7) (q : Nat) (hq : q < 36) (s : Nat) (hs : s < 4) (w2 : 2 ≤ W) (h2 : 2 ≤ H) : besI (nI W) (nI H) (nI q) (nI s) = besR (bsN W H q s) := of_decide_eq_true (or3 w2 h2 (all4 besAll_ok hW hH hq hs))
theorem bsT (W : Nat) (hW : W < 7) (H : Nat) (hH : H < 7) (q : Nat) (hq : q < 36) (s : Nat) (hs : s < 4) (w2 : 2 ≤ W) (h2 : 2 ≤ H) : (match bsN W H q s with | none => true | some j => decide (j < W * H) && (!decide (q < W * H) || decide (bsN W H j (3 - s) = some q))) = true := or3 w2 h2 (all4 bsAll_ok hW hH hq hs)
theorem bs_lt {W H q s j : Nat} (hW : 2 ≤ W ∧ W ≤ 6) (hH : 2 ≤ H ∧ H ≤ 6) (hq : q < 36) (hs : s < 4) (h : bsN W H q s = some j) : j < W * H := by
  have t := bsT W (by omega) H (by omega) q hq s hs hW.1 hH.1
  rw [h] at t
  simp at t
  exact t.1
theorem bs_back {W H q s j : Nat} (hW : 2 ≤ W ∧ W ≤ 6) (hH : 2 ≤ H ∧ H ≤ 6) (hq : q < 36) (hs : s < 4) (hq2 : q < W * H) (h : bsN W H q s = some j) : bsN W H j (3 - s) = some q := by
  have t := bsT W (by omega) H (by omega) q hq s hs hW.1 hH.1
  rw [h] at t
  simp at t
  rcases t.2 with z | z
  · omega
  · exact z
theorem bes_in {W H q s dx dy x y : Int32} (hdx : dx = if s = 1 then -1 else if s = 2 then 1 else 0) (hdy : dy = if s = 0 then -1 else if s = 3 then 1 else 0) (ex : x = q - q / W * W + dx) (ey : y = q / W + dy) (h1 : (0 : Int64) ≤ x.toInt64) (h2 : x.toInt64 ≤ (W - 1).toInt64) (h3 : (0 : Int64) ≤ y.toInt64) (h4 : y.toInt64 ≤ (H - 1).toInt64) : W * y + x = besI W H q s := by
  subst hdx hdy ex ey
  unfold besI
  exact (if_pos ⟨⟨h1, h2⟩, h3, h4⟩).symm
theorem bes_o1 {W H q s dx x : Int32} (hdx : dx = if s = 1 then -1 else if s = 2 then 1 else 0) (ex : x = q - q / W * W + dx) (h : ¬ ((0 : Int64) ≤ x.toInt64 ∧ x.toInt64 ≤ (W - 1).toInt64)) : -1 = besI W H q s := by
  subst hdx ex
  unfold besI
  exact (if_neg (fun z => h z.1)).symm
theorem bes_o2 {W H q s dy y : Int32} (hdy : dy = if s = 0 then -1 else if s = 3 then 1 else 0) (ey : y = q / W + dy) (h : ¬ ((0 : Int64) ≤ y.toInt64 ∧ y.toInt64 ≤ (H - 1).toInt64)) : -1 = besI W H q s := by
  subst hdy ey
  unfold besI
  exact (if_neg (fun z => h z.2)).symm
theorem nI_m1 {j : Nat} (h : j < 2147483648) : ¬ nI j = -1 := by
  intro e
  have := congrArg Int32.toInt e
  rw [nI_toInt (by omega)] at this
  have q : (-1 : Int32).toInt = -1 := by decide
  omega
theorem nI_inj {a b : Nat} (ha : a < 2147483648) (hb : b < 2147483648) (h : nI a = nI b) : a = b := (nI_eq (by omega) (by omega)).mp h
theorem farN {d : Nat} (h : d < 100000) : ¬ nI d = 100000 := fun e => by
  have := nI_inj (a := d) (b := 100000) (by omega) (by omega) e
  omega
/-! labels -/
def labI (W H S : Nat) (far : Nat → Int32) : Prop := ∀ q, q < 36 → far q = 100000 ∨ ∃ d : Nat, d ≤ 36 ∧ far q = nI d ∧ (d = 0 ∨ ∃ s j : Nat, s < 4 ∧ j < S ∧ bsN W H q s = some j ∧ far j = nI (d - 1))
def quI (N : Nat) (far qu : Nat → Int32) (n : Nat) : Prop := (∀ i, i < n → ∃ j d : Nat, j < N ∧ d ≤ i ∧ qu i = nI j ∧ far j = nI d) ∧ ∀ i i2, i < i2 → i2 < n → qu i ≠ qu i2
theorem quI.le {N : Nat} {far qu : Nat → Int32} {n : Nat} (hN : N < 2147483648) (h : quI N far qu n) : n ≤ N := by
  refine fb_holes N n (fun i => (qu i).toNatClampNeg) (fun i hi => ?_) (fun i j hij hj e => ?_)
  · obtain ⟨j, d, h1, -, h2, -⟩ := h.1 i hi
    show (qu i).toNatClampNeg < N
    rw [h2, nI_clamp (by omega)]
    exact h1
  · obtain ⟨a, d, h1, -, h2, -⟩ := h.1 i (by omega)
    obtain ⟨b, d', h3, -, h4, -⟩ := h.1 j hj
    have e2 : (qu i).toNatClampNeg = (qu j).toNatClampNeg := e
    rw [h2, h4, nI_clamp (by omega), nI_clamp (by omega)] at e2
    exact h.2 i j hij hj (by rw [h2, h4, e2])
theorem quI.zero {N : Nat} {far qu : Nat → Int32} : quI N far qu 0 := ⟨fun i hi => absurd hi (Nat.not_lt_zero i), fun i i2 _ h => absurd h (Nat.not_lt_zero i2)⟩
theorem quI.one {N : Nat} {far qu : Nat → Int32} {t : Nat} {x y : Int32} (ht : t < N) (hx : x = nI t) (hy : y = nI 0) : quI N (upd far t y) (upd qu 0 x) 1 := by
  refine ⟨fun i hi => ⟨t, 0, ht, by omega, ?_, ?_⟩, fun i i2 h1 h2 => by omega⟩
  · have : i = 0 := by omega
    subst this
    rw [ur_eq]
    exact hx
  · rw [ur_eq]
    exact hy
theorem quI.push {N : Nat} {far qu : Nat → Int32} {n d q : Nat} {x y : Int32} (h : quI N far qu n) (hN : N < 2147483648) (hn : n < 100000) (hd : d + 1 ≤ n) (hq : q < N) (hf : far q = 100000) (hx : x = nI q) (hy : y = nI (d + 1)) : quI N (upd far q y) (upd qu n x) (n + 1) := by
  have hne : ∀ j e : Nat, e < 100000 → far j = nI e → j ≠ q := by
    intro j e he h1 z
    subst z
    exact farN he (h1.symm.trans hf)
  have hnq : ∀ i, i < n → qu i ≠ x := by
    intro i hi z
    obtain ⟨j, e, h1, h2, h3, h4⟩ := h.1 i hi
    have hj := hne j e (by omega) h4
    rw [h3, hx] at z
    exact hj (nI_inj (by omega) (by omega) z)
  refine ⟨fun i hi => ?_, fun i i2 h1 h2 => ?_⟩
  · by_cases z : i = n
    · subst z
      exact ⟨q, d + 1, hq, hd, by rw [ur_eq]; exact hx, by rw [ur_eq]; exact hy⟩
    · obtain ⟨j, e, a, b, c, f⟩ := h.1 i (by omega)
      exact ⟨j, e, a, b, by rw [ur_ne _ _ z]; exact c, by rw [ur_ne _ _ (hne j e (by omega) f)]; exact f⟩
  · by_cases z : i2 = n
    · subst z
      rw [ur_eq, ur_ne _ _ (by omega)]
      exact hnq i h1
    · rw [ur_ne _ _ (by omega), ur_ne _ _ z]
      exact h.2 i i2 h1 (by omega)
/-- one more is in the queue than before: there was room -/
theorem quI.room {N : Nat} {far qu : Nat → Int32} {n q : Nat} (h : quI N far qu n) (hN : N < 100000) (hq : q < N) (hf : far q = 100000) : n < N := by
  have hl := h.le (by omega)
  rcases Nat.lt_or_ge n N with z | z
  · exact z
  · have hn : n = N := by omega
    have h2 := (h.push (d := n - 1) (by omega) (by omega) (by omega) hq hf (x := nI q) (y := nI (n - 1 + 1)) rfl rfl).le (by omega)
    omega
theorem quI.at {N : Nat} {far qu : Nat → Int32} {n k j : Nat} (h : quI N far qu n) (hN : N < 100000) (hk : k < n) (hj : j < N) (hq : qu k = nI j) : ∃ d : Nat, far j = nI d ∧ d ≤ k := by
  obtain ⟨a, d, h1, h2, h3, h4⟩ := h.1 k hk
  have e : a = j := nI_inj (by omega) (by omega) (h3.symm.trans hq)
  subst e
  exact ⟨d, h4, h2⟩
theorem labI.zero {W H S : Nat} {far : Nat → Int32} (h : ∀ q, q < 36 → far q = 100000) : labI W H S far := fun q hq => Or.inl (h q hq)
theorem labI.one {W H S t : Nat} {far : Nat → Int32} {y : Int32} (h : ∀ q, q < 36 → far q = 100000) (hy : y = nI 0) : labI W H S (upd far t y) := by
  intro q hq
  by_cases z : q = t
  · subst z
    exact Or.inr ⟨0, by omega, by rw [ur_eq]; exact hy, Or.inl rfl⟩
  · rw [ur_ne _ _ z]
    exact Or.inl (h q hq)
theorem labI.push {W H S : Nat} {far : Nat → Int32} {d q s j : Nat} {y : Int32} (h : labI W H S far) (hf : far q = 100000) (hd : d < 36) (hs : s < 4) (hj : j < S) (hb : bsN W H q s = some j) (hfj : far j = nI d) (hy : y = nI (d + 1)) : labI W H S (upd far q y) := by
  have hne : ∀ j e : Nat, e < 100000 → far j = nI e → j ≠ q := by
    intro j e he h1 z
    subst z
    exact farN he (h1.symm.trans hf)
  intro a ha
  by_cases z : a = q
  · subst z
    refine Or.inr ⟨d + 1, by omega, by rw [ur_eq]; exact hy, Or.inr ⟨s, j, hs, hj, hb, ?_⟩⟩
    rw [ur_ne _ _ (hne j d (by omega) hfj)]
    exact hfj
  · rw [ur_ne _ _ z]
    rcases h a ha with e | ⟨d', h1, h2, h3⟩
    · exact Or.inl e
    · refine Or.inr ⟨d', h1, h2, ?_⟩
      rcases h3 with e | ⟨s', j', a1, a2, a3, a4⟩
      · exact Or.inl e
      · exact Or.inr ⟨s', j', a1, a2, a3, by rw [ur_ne _ _ (hne j' (d' - 1) (by omega) a4)]; exact a4⟩
theorem lab_step {W H S q d : Nat} {far : Nat → Int32} (h : labI W H S far) (hq : q < 36) (hf : far q = nI d) (hd : 0 < d) (hd2 : d ≤ 36) : ∃ s j : Nat, s < 4 ∧ j < S ∧ bsN W H q s = some j ∧ far j = nI (d - 1) := by
  rcases h q hq with e | ⟨d', h1, h2, h3⟩
  · exact absurd (hf.symm.trans e) (farN (by omega))
  · have e : d' = d := nI_inj (by omega) (by omega) (h2.symm.trans hf)
    subst e
    rcases h3 with z | z
    · omega
    · exact z
theorem bes_sp {o : Option Nat} {r : Int32} (h : r = besR o) : (r = -1 ∧ o = none) ∨ ∃ j : Nat, r = nI j ∧ o = some j := by
  cases o with
  | none => exact Or.inl ⟨h, rfl⟩
  | some j => exact Or.inr ⟨j, h, rfl⟩
theorem bes_nat {o : Option Nat} {r : Int32} (h : (r = -1 ∧ o = none) ∨ ∃ j : Nat, r = nI j ∧ o = some j) (c : ¬ r = -1) : ∃ j : Nat, r = nI j ∧ o = some j := by
  rcases h with h | h
  · exact absurd h.1 c
  · exact h
theorem bes_neA {W H q s s0 j0 : Nat} {r : Int32} (h : (r = -1 ∧ bsN W H q s = none) ∨ ∃ j : Nat, r = nI j ∧ bsN W H q s = some j) (hb : bsN W H q s0 = some j0) (hj : j0 < 36) (c : r = -1) : s ≠ s0 := by
  intro e
  subst e
  rcases h with h | ⟨j, h1, h2⟩
  · rw [hb] at h
    exact absurd h.2 (by simp)
  · rw [hb] at h2
    cases h2
    exact nI_m1 (by omega) (h1.symm.trans c)
theorem bes_neB {W H q s s0 j0 jb : Nat} {far : Nat → Int32} {v : Int32} (hbb : bsN W H q s = some jb) (hb0 : bsN W H q s0 = some j0) (hf0 : far j0 = v) (c : ¬ far jb = v) : s ≠ s0 := by
  intro e
  subst e
  rw [hb0] at hbb
  cases hbb
  exact c hf0
theorem z_ni {x : Int32} {d : Nat} (h1 : -1 ≤ x) (h2 : ¬ x = -1) (h3 : x ≤ nI d) (hd : d ≤ 36) : ∃ n : Nat, n ≤ d ∧ x = nI n := by
  rw [z_le] at h1 h3
  rw [nI_toInt (by omega)] at h3
  have q : (-1 : Int32).toInt = -1 := by decide
  have h4 : x.toInt ≠ -1 := fun e => h2 (Int32.toInt_inj.mp (e.trans q.symm))
  refine ⟨x.toInt.toNat, by omega, ?_⟩
  apply Int32.toInt_inj.mp
  rw [nI_toInt (by omega)]
  omega
theorem dv32 {a : Nat} (h : a < 1152) : nI a / 32 = nI (a / 32) := pk_div (d := 32) (by omega) (by decide) (by decide)
theorem rm32 {a : Nat} (h : a < 1152) : nI a - nI a / 32 * 32 = nI (a % 32) := pk_rem (d := 32) (by omega) (by decide) (by decide)

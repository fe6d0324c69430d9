/-! the law's frame: cells that no call touches stand ahead -/
section Ex
variable {p : Program} {l : Launch} {e : Env} {R : Room} {s : State} {m : MethodId} {args : Array Value} {below : List Frame} {meth : Method} {c : Code} {H : Heap} {locs : List Loc} {cells slots : Nat} {Q : State → Prop}
variable {D : va_G} {ex ws wc wr : va_W} {A : Nat → Prop} {H0 : Heap} {pc : Nat} {ls : Array Slot} {st0 rest : List Value} {a : Array Value}
theorem xP (h : va_P D vwCl (ex ++ ws) H) : va_P D vwCl ws H := fun k q hk => h (ex.length + k) q (by
  rw [List.getElem?_append_right (by omega), Nat.add_sub_cancel_left]
  exact hk)
theorem xP1 (h : va_P D vwCl (ex ++ ws) H) : va_P D vwCl ex H := fun k q hk => h k q (by
  have hl : k < ex.length := (List.getElem?_eq_some_iff.mp hk).1
  rw [List.getElem?_append_left hl]
  exact hk)
theorem xD (h : va_D A (ex ++ ws)) : va_D A ws := ⟨fun i j p q hi hj e => by
  have := h.1 (ex.length + i) (ex.length + j) p q (by rw [List.getElem?_append_right (by omega), Nat.add_sub_cancel_left]; exact hi) (by rw [List.getElem?_append_right (by omega), Nat.add_sub_cancel_left]; exact hj) e
  omega, fun k q hk => h.2 (ex.length + k) q (by rw [List.getElem?_append_right (by omega), Nat.add_sub_cancel_left]; exact hk)⟩
theorem xD1 (h : va_D A (ex ++ ws)) : va_D A ex := ⟨fun i j p q hi hj e => by
  have h1 : i < ex.length := (List.getElem?_eq_some_iff.mp hi).1
  have h2 : j < ex.length := (List.getElem?_eq_some_iff.mp hj).1
  exact h.1 i j p q (by rw [List.getElem?_append_left h1]; exact hi) (by rw [List.getElem?_append_left h2]; exact hj) e, fun k q hk => by
  have h1 : k < ex.length := (List.getElem?_eq_some_iff.mp hk).1
  exact h.2 k q (by rw [List.getElem?_append_left h1]; exact hk)⟩
theorem xN (h : va_D A (ex ++ ws)) (i j : Nat) (p q : Nat × va_E) (hi : ex[i]? = some p) (hj : ws[j]? = some q) : p.1 ≠ q.1 := by
  intro e
  have h1 : i < ex.length := (List.getElem?_eq_some_iff.mp hi).1
  have := h.1 i (ex.length + j) p q (by rw [List.getElem?_append_left h1]; exact hi) (by rw [List.getElem?_append_right (by omega), Nat.add_sub_cancel_left]; exact hj) e
  omega
theorem appP {X Y : va_W} (hX : va_P D vwCl X H) (hY : va_P D vwCl Y H) : va_P D vwCl (X ++ Y) H := by
  intro k q hk
  rcases Nat.lt_or_ge k X.length with z | z
  · rw [List.getElem?_append_left z] at hk
    exact hX k q hk
  · rw [List.getElem?_append_right z] at hk
    exact hY _ q hk
theorem appD {X Y : va_W} (hX : va_D A X) (hY : va_D A Y) (hn : ∀ (i j : Nat) (p q : Nat × va_E), X[i]? = some p → Y[j]? = some q → p.1 ≠ q.1) : va_D A (X ++ Y) := by
  refine ⟨fun i j p q hi hj e => ?_, fun k q hk => ?_⟩
  · rcases Nat.lt_or_ge i X.length with z | z <;> rcases Nat.lt_or_ge j X.length with y | y
    · rw [List.getElem?_append_left z] at hi
      rw [List.getElem?_append_left y] at hj
      exact hX.1 i j p q hi hj e
    · rw [List.getElem?_append_left z] at hi
      rw [List.getElem?_append_right y] at hj
      exact absurd e (hn i _ p q hi hj)
    · rw [List.getElem?_append_right z] at hi
      rw [List.getElem?_append_left y] at hj
      exact absurd e.symm (hn j _ q p hj hi)
    · rw [List.getElem?_append_right z] at hi
      rw [List.getElem?_append_right y] at hj
      have := hY.1 _ _ p q hi hj e
      omega
  · rcases Nat.lt_or_ge k X.length with z | z
    · rw [List.getElem?_append_left z] at hk
      exact hX.2 k q hk
    · rw [List.getElem?_append_right z] at hk
      exact hY.2 _ q hk
/-- what stands behind comes ahead -/
theorem rotP {X Y : va_W} (h : va_P D vwCl (X ++ Y) H) : va_P D vwCl (Y ++ X) H := appP (xP h) (xP1 h)
theorem rotD {X Y : va_W} (h : va_D A (X ++ Y)) : va_D A (Y ++ X) := appD (xD h) (xD1 h) (fun i j p q hi hj e => xN h j i q p hj hi e.symm)
theorem rot3P {X B E1 E2 : va_W} (h : va_P D vwCl (X ++ (B ++ E1 ++ E2)) H) : va_P D vwCl ((E1 ++ E2) ++ (X ++ B)) H := by
  have e : X ++ (B ++ E1 ++ E2) = (X ++ B) ++ (E1 ++ E2) := by rw [List.append_assoc B, List.append_assoc X]
  rw [e] at h
  exact rotP h
theorem rot3D {X B E1 E2 : va_W} (h : va_D A (X ++ (B ++ E1 ++ E2))) : va_D A ((E1 ++ E2) ++ (X ++ B)) := by
  have e : X ++ (B ++ E1 ++ E2) = (X ++ B) ++ (E1 ++ E2) := by rw [List.append_assoc B, List.append_assoc X]
  rw [e] at h
  exact rotD h
theorem xJ {w1 : va_W} {H1 : Heap} (hX : va_P D vwCl (ex ++ ws) H) (hDX : va_D A (ex ++ ws)) (hF : ∀ q, va_A wc H.size q → A q) (isC isR : List Nat) (hC : isC.map (fun i => ws[i]?) = wc.map some) (hR : isR.map (fun i => ws[i]?) = wr.map some) (hn : va_nd isR = true) (hdis : ∀ i ∈ isR, i ∉ isC)
    (hk : ∀ q : Nat, q < H.size → ¬ va_A wc H.size q → H1[q]? = H[q]?) (hP1 : va_P D vwCl w1 H1) (hD1 : va_D (va_A wc H.size) w1) : va_P D vwCl (ex ++ (wr ++ w1)) H1 ∧ va_D A (ex ++ (wr ++ w1)) := by
  obtain ⟨h1, h2⟩ := va_join (wr := wr) (xP hX) (xD hDX) isC isR hC hR hn hdis hk hF hP1 hD1
  have mem : ∀ {is : List Nat} {w : va_W}, is.map (fun i => ws[i]?) = w.map some → ∀ (k : Nat) (q : Nat × va_E), w[k]? = some q → ∃ i : Nat, ws[i]? = some q := by
    intro is w he k q hq
    have h3 : (w.map some)[k]? = some (some q) := by rw [List.getElem?_map, hq]; rfl
    rw [← he, List.getElem?_map] at h3
    cases hi : is[k]? with
    | none => rw [hi] at h3; cases h3
    | some i => rw [hi] at h3; exact ⟨i, Option.some.inj h3⟩
  have out : ∀ (i : Nat) (p : Nat × va_E), ex[i]? = some p → p.1 < H.size ∧ ¬ va_A wc H.size p.1 := by
    intro i p hi
    have hlt : p.1 < H.size := (xP1 hX i p hi).lt
    refine ⟨hlt, fun z => ?_⟩
    rcases z with ⟨k, e, z⟩ | z
    · obtain ⟨j, hj⟩ := mem hC k (p.1, e) z
      exact xN hDX i j p (p.1, e) hi hj rfl
    · omega
  refine ⟨appP ((xP1 hX).kept (fun k q hq => hk q.1 (out k q hq).1 (out k q hq).2)) h1, appD (xD1 hDX) h2 (fun i j p q hi hj e => ?_)⟩
  rcases Nat.lt_or_ge j wr.length with z | z
  · rw [List.getElem?_append_left z] at hj
    obtain ⟨i2, h3⟩ := mem hR j q hj
    exact xN hDX i i2 p q hi h3 e
  · rw [List.getElem?_append_right z] at hj
    have h3 := hD1.2 _ q hj
    rw [← e] at h3
    exact (out i p hi).2 h3
theorem wrx_i {S : Type} {post : Int32 → S → Prop} {w1 : S → va_W} {mc ms : Nat} (hr : va_Run p l e R s m args below meth c H locs cells slots mc ms (F0 m pc ls st0) rest (va_Qi post (fun u t => va_P D vwCl (w1 u) t.heap ∧ va_D (va_A wc H.size) (w1 u)) (va_A wc H.size) a) (va_A wc H.size)) (hX : va_P D vwCl (ex ++ ws) H) (hDX : va_D A (ex ++ ws)) (hS : va_S A H0 H locs) (hA : ∀ q, H0.size ≤ q → A q)
    (isC isR : List Nat) (hC : isC.map (fun i => ws[i]?) = wc.map some) (hR : isR.map (fun i => ws[i]?) = wr.map some) (hn : va_nd isR = true) (hdis : ∀ i ∈ isR, i ∉ isC)
    (kk : ∀ (r : Int32) (u : S) (H1 : Heap) (locs1 : List Loc), post r u → va_P D vwCl (ex ++ (wr ++ w1 u)) H1 → va_D A (ex ++ (wr ++ w1 u)) → va_S A H0 H1 locs1 → W p l e R s m args below meth c H1 locs1 (cells + mc) (slots + ms) Q (F0 m (pc + 3) ls (.int r :: rest))) : W p l e R s m args below meth c H locs cells slots Q (F0 m pc ls st0) := by
  have hF := va_free (wc := wc) (xD hDX) hS hA isC hC
  refine va_calli hr hS (fun q _ h => hF q h) hF (fun r u t H1 locs1 ht hvm hw hB hz hk hS1 => ?_)
  rw [ht] at hB
  obtain ⟨h1, h2⟩ := xJ (wr := wr) hX hDX hF isC isR hC hR hn hdis hk hB.1 hB.2
  exact kk r u H1 locs1 hw h1 h2 hS1
theorem wrx_l {S : Type} {post : Int64 → S → Prop} {w1 : S → va_W} {mc ms : Nat} (hr : va_Run p l e R s m args below meth c H locs cells slots mc ms (F0 m pc ls st0) rest (va_Ql post (fun u t => va_P D vwCl (w1 u) t.heap ∧ va_D (va_A wc H.size) (w1 u)) (va_A wc H.size) a) (va_A wc H.size)) (hX : va_P D vwCl (ex ++ ws) H) (hDX : va_D A (ex ++ ws)) (hS : va_S A H0 H locs) (hA : ∀ q, H0.size ≤ q → A q)
    (isC isR : List Nat) (hC : isC.map (fun i => ws[i]?) = wc.map some) (hR : isR.map (fun i => ws[i]?) = wr.map some) (hn : va_nd isR = true) (hdis : ∀ i ∈ isR, i ∉ isC)
    (kk : ∀ (r : Int64) (u : S) (H1 : Heap) (locs1 : List Loc), post r u → va_P D vwCl (ex ++ (wr ++ w1 u)) H1 → va_D A (ex ++ (wr ++ w1 u)) → va_S A H0 H1 locs1 → W p l e R s m args below meth c H1 locs1 (cells + mc) (slots + ms) Q (F0 m (pc + 3) ls (.long r :: rest))) : W p l e R s m args below meth c H locs cells slots Q (F0 m pc ls st0) := by
  have hF := va_free (wc := wc) (xD hDX) hS hA isC hC
  refine va_calll hr hS (fun q _ h => hF q h) hF (fun r u t H1 locs1 ht hvm hw hB hz hk hS1 => ?_)
  rw [ht] at hB
  obtain ⟨h1, h2⟩ := xJ (wr := wr) hX hDX hF isC isR hC hR hn hdis hk hB.1 hB.2
  exact kk r u H1 locs1 hw h1 h2 hS1
theorem xsP {ws' : va_W} (h : va_P D vwCl (ex ++ ws) H) (is : List Nat) (hs : is.filterMap (fun i => ws[i]?) = ws') : va_P D vwCl (ex ++ ws') H := appP (xP1 h) ((xP h).sub is hs)
theorem xsD {ws' : va_W} (h : va_D A (ex ++ ws)) (is : List Nat) (hn : va_nd is = true) (hs : is.map (fun i => ws[i]?) = ws'.map some) : va_D A (ex ++ ws') := by
  refine appD (xD1 h) ((xD h).sub is hn hs) (fun i j p q hi hj => ?_)
  have h3 : (ws'.map some)[j]? = some (some q) := by rw [List.getElem?_map, hj]; rfl
  rw [← hs, List.getElem?_map] at h3
  cases hk : is[j]? with
  | none => rw [hk] at h3; cases h3
  | some k => rw [hk] at h3; exact xN h i k p q hi (Option.some.inj h3)
end Ex
theorem ikRel {a b a' b' : Option Nat} {ik ik' : Nat → Int32} {x : Int32} (hn : imN a b a' b' x) (hk : ikN ik ik' x) (h0 : ik 0 = 0 ↔ a = none) (h1 : ik 1 = 0 ↔ b = none) : (ik' 0 = 0 ↔ a' = none) ∧ (ik' 1 = 0 ↔ b' = none) := by
  by_cases x0 : x = 0
  · obtain ⟨n1, n2⟩ := hn.1 x0
    obtain ⟨k1, k2⟩ := hk.1 x0
    rw [k1, k2, n2]
    exact ⟨⟨fun q => absurd q (by decide), fun q => absurd q n1⟩, h1⟩
  · by_cases x1 : x = 1
    · obtain ⟨n1, n2⟩ := hn.2.1 x1
      obtain ⟨k1, k2⟩ := hk.2.1 x1
      rw [k1, k2, n2]
      exact ⟨h0, ⟨fun q => absurd q (by decide), fun q => absurd q n1⟩⟩
    · obtain ⟨n1, n2⟩ := hn.2.2 x0 x1
      obtain ⟨k1, k2⟩ := hk.2.2 x0 x1
      rw [k1, k2, n1, n2]
      exact ⟨h0, h1⟩
theorem imVE {o : Option GT} {y : Int32} (h : y = 0 ↔ imA o = none) : imV o = if y = 0 then -3 else 1 := by
  cases o with
  | none => rw [if_pos (h.mpr rfl)]; rfl
  | some g => rw [if_neg (fun q => by have := h.mp q; cases this)]; rfl
theorem frEq {o0 o1 : Option GT} {ik : Nat → Int32} (x : Int32) (h0 : ik 0 = 0 ↔ imA o0 = none) (h1 : ik 1 = 0 ↔ imA o1 = none) : imR o0 o1 x = mR ik x := by
  rw [imR, mR, imVE h0, imVE h1]

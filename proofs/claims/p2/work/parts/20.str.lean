def lenS : List Nat := [6, 5, 8, 5, 4, 6, 4, 0]
def bytS : List (List Int32) := [[103, 97, 114, 100, 101, 110], [104, 101, 100, 103, 101], [102, 111, 117, 110, 116, 97, 105, 110], [100, 114, 111, 119, 110], [119, 105, 110, 100], [112, 101, 114, 115, 111, 110], [116, 101, 108, 108], []]
/-- the constants' texts, and what String's methods ask of the statics -/
def sK (adK adV : Nat → Nat) (A : Nat → Prop) (U : State) (H : Heap) : Prop := (vk_R RX8 149 "garden" (adK 0) U ∧ vk_R RX8 151 "hedge" (adK 1) U ∧ vk_R RX8 153 "fountain" (adK 2) U ∧ vk_R RX8 155 "drown" (adK 3) U ∧ vk_R RX8 156 "wind" (adK 4) U ∧ vk_R RX8 157 "person" (adK 5) U ∧ vk_R RX8 159 "tell" (adK 6) U ∧ vk_R RX8 161 "" (adK 7) U) ∧ vk_S 8 lenS bytS adK adV A U H ∧ va_Z "java/lang/String" "COMPACT_STRINGS" "Z" (.int 1) A U H ∧ va_Zq "jdk/internal/util/Preconditions" "SIOOBE_FORMATTER" "Ljava/util/function/BiFunction;" A U H
theorem sK.warm {adK adV : Nat → Nat} {A : Nat → Prop} {s U : State} {H : Heap} (hW : s.WarmedH U.vm) (h : sK adK adV A s H) : sK adK adV A U H := by
  obtain ⟨⟨r0, r1, r2, r3, r4, r5, r6, r7⟩, h1, h2, h3⟩ := h
  exact ⟨⟨r0.warm hW, r1.warm hW, r2.warm hW, r3.warm hW, r4.warm hW, r5.warm hW, r6.warm hW, r7.warm hW⟩, h1.moved hW.alike, h2.moved hW.alike, h3.moved hW.alike⟩
theorem sK.kept {adK adV : Nat → Nat} {A : Nat → Prop} {U : State} {H H1 : Heap} (h : sK adK adV A U H) (hq : ∀ a : Nat, a < H.size → ¬ A a → H1[a]? = H[a]?) : sK adK adV A U H1 := ⟨h.1, h.2.1.kept hq, h.2.2.1.kept hq, h.2.2.2.kept hq⟩
theorem sK.narrow {adK adV : Nat → Nat} {A B : Nat → Prop} {U : State} {H : Heap} (h : sK adK adV A U H) (hAB : ∀ q, B q → A q) : sK adK adV B U H := ⟨h.1, h.2.1.narrow hAB, h.2.2.1.narrow hAB, h.2.2.2.narrow hAB⟩
theorem sK.calling {adK adV : Nat → Nat} {A : Nat → Prop} {U : State} {H : Heap} {g : JFrame} {mk : MethodId} {a : Array Value} (h : sK adK adV A U H) : sK adK adV A (U.calling g mk a) H := by
  obtain ⟨⟨r0, r1, r2, r3, r4, r5, r6, r7⟩, h1, h2, h3⟩ := h
  exact ⟨⟨vk_R.same rfl r0, vk_R.same rfl r1, vk_R.same rfl r2, vk_R.same rfl r3, vk_R.same rfl r4, vk_R.same rfl r5, vk_R.same rfl r6, vk_R.same rfl r7⟩, vk_S.moved (u := U) (U := U.calling g mk a) (Vm.Alike.refl U.vm) h1, va_Z.moved (u := U) (U := U.calling g mk a) (Vm.Alike.refl U.vm) h2, va_Zq.moved (u := U) (U := U.calling g mk a) (Vm.Alike.refl U.vm) h3⟩
def kPreS (D : va_G) (cy : Nat → ClassId) (adK adV : Nat → Nat) (wc : va_W) (sz : Nat) (U : State) : Prop := kPre D cy wc sz U ∧ sK adK adV (va_A wc sz) U U.heap
theorem kPreS.blind {D : va_G} {cy : Nat → ClassId} {adK adV : Nat → Nat} {wc : va_W} {sz : Nat} {av : List Value} : FrameBlind (va_Pc av (kPreS D cy adK adV wc sz)) := fun _ _ _ _ q => ⟨q.1, ⟨q.2.1.1, q.2.1.2.1, q.2.1.2.2.1.calling, q.2.1.2.2.2⟩, q.2.2.calling⟩
section StrCalls
variable {s : State} {H : Heap} {b : Addr} {As : List Value} {D : va_G} {cy : Nat → ClassId} {wc : va_W} {A A0 : Nat → Prop} {adK adV : Nat → Nat} {locs : List Loc}
theorem pSs (hK : kA D cy s) (hP : va_P D vwCl wc H) (hD : va_D A wc) (hE : sK adK adV A0 s s.heap) (hS : va_S A0 s.heap H locs) (hF : ∀ q, va_A wc H.size q → A0 q) : PreS s H (va_Pc As (kPreS D cy adK adV wc H.size)) As :=
  ⟨kPreS.blind, fun U hU hW => ⟨rfl, ⟨by rw [hU], by rw [hU]; exact hP, hK.warm hW, hD.weaken (fun _ _ _ _ => trivial)⟩, by rw [hU]; exact ((hE.kept hS.2.1).narrow hF).warm hW⟩⟩
theorem pVs {ci : Nat} {q : vw_C} {fs : List Value} {k : Nat} (hK : kA D cy s) (hP : va_P D vwCl wc H) (hD : va_D A wc) (hE : sK adK adV A0 s s.heap) (hS : va_S A0 s.heap H locs) (hF : ∀ q, va_A wc H.size q → A0 q) (hc : vwCl[ci]? = some q) (he : wc[k]? = some (b, .inr (ci, fs))) : PreV s H q.1 b (va_Pc (.ref b :: As) (kPreS D cy adK adV wc H.size)) As :=
  ⟨kPreS.blind, va_recv hK.1 hP hc he, fun U hU hW => ⟨rfl, ⟨by rw [hU], by rw [hU]; exact hP, hK.warm hW, hD.weaken (fun _ _ _ _ => trivial)⟩, by rw [hU]; exact ((hE.kept hS.2.1).narrow hF).warm hW⟩⟩
theorem pJs {i : Nat} (hK : kA D cy s) (hE : sK adK adV A0 s s.heap) (hS : va_S A0 s.heap H locs) (hF : ∀ q, va_A [] H.size q → A0 q) (hi : i < 8) : PreV s H RJ0 (adK i) (va_Pc (.ref (adK i) :: As) (kPreS D cy adK adV [] H.size)) As :=
  ⟨kPreS.blind, vk_recv hE.2.1 hi hS, fun U hU hW => ⟨rfl, ⟨by rw [hU], pE, hK.warm hW, dE⟩, by rw [hU]; exact ((hE.kept hS.2.1).narrow hF).warm hW⟩⟩
theorem fE {A0 : Nat → Prop} {H0 : Heap} (hS : va_S A0 H0 H locs) (hA : ∀ q, H0.size ≤ q → A0 q) : ∀ q, va_A [] H.size q → A0 q := by
  intro q h
  rcases h with ⟨k, e, h⟩ | h
  · simp at h
  · exact hA q (Nat.le_trans hS.1 h)
end StrCalls
theorem lenS_lt {i : Nat} (hi : i < 8) : lenS.getD i 0 < 9 := by
  rcases (show i = 0 ∨ i = 1 ∨ i = 2 ∨ i = 3 ∨ i = 4 ∨ i = 5 ∨ i = 6 ∨ i = 7 by omega) with rfl | rfl | rfl | rfl | rfl | rfl | rfl | rfl <;> decide

/-! ===== what the tables say at the law's entry ===== -/
theorem ob_two {α β : Type} {x : Option α} {y : α → Option β} {f : α → β → Bool} (h : (x.bind fun a => (y a).map (f a)) = some true) : ∃ a b, x = some a ∧ y a = some b ∧ f a b = true := by
  rcases x with _ | a
  · exact absurd h (by simp)
  · rcases hy : y a with _ | b
    · simp [hy] at h
    · exact ⟨a, b, rfl, hy, by simpa [hy] using h⟩
/-- an array class by its component and by its component's type -/
theorem ob_kind {K : Kind} {o : ClassId} {t : FieldType} {x y : Option ClassId} (h1 : (match K with | .array c _ => c == o | _ => false) = true) (h2 : (match (generalizing := false) K with | .array _ ty => decide (ty = t) && decide (x = y) | _ => false) = true) : K = .array o t ∧ x = y := by
  rcases K with _ | ⟨c, ty⟩ | _
  · exact absurd h1 Bool.false_ne_true
  · have h4 : c = o := eq_of_beq (show (c == o) = true from h1)
    have h5 := Bool.and_eq_true_iff.mp (show (decide (ty = t) && decide (x = y)) = true from h2)
    exact ⟨by rw [h4, of_decide_eq_true h5.1], of_decide_eq_true h5.2⟩
  · exact absurd h1 Bool.false_ne_true
theorem ma_over {args : Array Value} {s : State} (h : (Cond.arrayOver (.array .byte)).before args s = true) : ∃ comp c k, s.vm.findClass "[B" = some comp ∧ s.vm.classes[c]? = some k ∧ k.kind = .array comp (.array .byte) ∧ s.vm.findClass "[[B" = some c := by
  have t1 : (FieldType.array .byte).toString = "[B" := by decide +kernel
  have t2 : "[" ++ "[B" = "[[B" := by decide +kernel
  have hv := eq_of_beq h
  obtain ⟨o, ho, h3⟩ := Option.bind_eq_some_iff.mp hv
  obtain ⟨c, k, hc, hk, hb⟩ := ob_two h3
  have hq := Array.of_findIdx?_eq_some hc
  rw [hk] at hq
  obtain ⟨e1, e2⟩ := ob_kind hq hb
  rw [t1, t2] at e2
  exact ⟨o, c, k, by rw [← t1]; exact ho, hk, e1, e2⟩
theorem gm_K0 {s : State} {args : Array Value} (hts : ∀ w ∈ lw_tbl, w.before args s = true) : ∃ (D : va_G) (cI : Nat → ClassId), ∀ l : Launch, gm_K (l, D, cI) s := by
  have ha : ∀ w ∈ am_ws, w.before args s = true := fun w hw => hts w (List.mem_filter.mp hw).1
  have hn : ∀ (i : Nat) (w : Cond), lw_tbl[i]? = some w → w.before args s = true := fun i w h => hts w (List.mem_of_getElem? h)
  obtain ⟨c0, i0, n0⟩ := u_known (C := RX1) (T := TX1) (N := 4) (n := 4) ha iw_X1 (ha _ kN_X1)
  obtain ⟨c1, i1, n1⟩ := u_known (C := RX3) (T := TX3) (N := 4) (n := 4) ha iw_X3 (ha _ kN_X3)
  obtain ⟨c2, i2, n2⟩ := u_known (C := RX4) (T := TX4) (N := 7) (n := 7) ha iw_X4 (ha _ kN_X4)
  obtain ⟨c3, i3, n3⟩ := u_known (C := RX5) (T := TX5) (N := 5) (n := 5) ha iw_X5 (ha _ kN_X5)
  obtain ⟨c4, i4, n4⟩ := u_known (C := RX6) (T := TX6) (N := 3) (n := 3) ha iw_X6 (ha _ kN_X6)
  obtain ⟨c5, i5, n5⟩ := u_known (C := RX7) (T := TX7) (N := 4) (n := 4) ha iw_X7 (ha _ kN_X7)
  obtain ⟨c6, i6, n6⟩ := u_known (C := RX8) (T := TX8) (N := 12) (n := 12) ha iw_X8 (ha _ kN_X8)
  obtain ⟨c7, i7, n7⟩ := u_known (C := RX9) (T := TX9) (N := 2) (n := 2) ha iw_X9 (ha _ kN_X9)
  obtain ⟨c8, i8, n8⟩ := u_known (C := RX10) (T := TX10) (N := 3) (n := 3) ha iw_X10 (ha _ kN_X10)
  obtain ⟨c9, i9, n9⟩ := u_known (C := RX11) (T := TX11) (N := 15) (n := 15) ha iw_X11 (ha _ kN_X11)
  obtain ⟨c10, i10, n10⟩ := u_known (C := RX12) (T := TX12) (N := 41) (n := 41) ha iw_X12 (ha _ kN_X12)
  obtain ⟨aI, kI, oI, fI, gI, hI⟩ := Cond.arrayClass_spec (ha _ kz_i)
  obtain ⟨aZ, kZ, oZ, fZ, gZ, hZ⟩ := Cond.arrayClass_spec (ha _ kz_z)
  obtain ⟨aB, kB, oB, fB, gB, hB⟩ := Cond.arrayClass_spec (ha _ kz_b)
  have fI : s.vm.findClass "[I" = some aI := fI
  have fZ : s.vm.findClass "[Z" = some aZ := fZ
  have fB : s.vm.findClass "[B" = some aB := fB
  obtain ⟨oA, aA, kA, fA0, gA, hA, fA⟩ := ma_over (hn 317 _ (by decide +kernel))
  have eA : oA = aB := Option.some.inj (fA0.symm.trans fB)
  subst eA
  have hAO := va_AO.of (C := RX4) (hn 80 _ (by decide +kernel))
  obtain ⟨oL, aL, kL, fL0, -, gL, hL, fL⟩ := Cond.arrayOver_spec hAO
  have fL : s.vm.findClass "[LLoadsUnseen$Line;" = some aL := fL
  refine ⟨(fun k => [c0, c1, c2, c3, c4, c5, c6, c7, c8, c9, c10].getD k c0, fun k => [i0, i1, i2, i3, i4, i5, i6, i7, i8, i9, i10].getD k i0), fun k => [aI, aZ, oA, aA, aL].getD k aI, fun l => ?_⟩
  refine ⟨⟨fun k q hq => ?_, fun k q hq => ?_⟩, fun q hq => ?_, fI, fZ, fB, fA, fL, hAO, va_Nw.of rfl (hn 576 _ (by decide +kernel)), va_Nw.of rfl (hn 582 _ (by decide +kernel)), kA, gA, hA⟩
  · have hk : k < 11 := (List.getElem?_eq_some_iff.mp hq).1
    rcases (show k = 0 ∨ k = 1 ∨ k = 2 ∨ k = 3 ∨ k = 4 ∨ k = 5 ∨ k = 6 ∨ k = 7 ∨ k = 8 ∨ k = 9 ∨ k = 10 by omega) with rfl | rfl | rfl | rfl | rfl | rfl | rfl | rfl | rfl | rfl | rfl
    · cases hq; exact n0
    · cases hq; exact n1
    · cases hq; exact n2
    · cases hq; exact n3
    · cases hq; exact n4
    · cases hq; exact n5
    · cases hq; exact n6
    · cases hq; exact n7
    · cases hq; exact n8
    · cases hq; exact n9
    · cases hq; exact n10
  · have hk : k < 5 := (List.getElem?_eq_some_iff.mp hq).1
    rcases (show k = 0 ∨ k = 1 ∨ k = 2 ∨ k = 3 ∨ k = 4 by omega) with rfl | rfl | rfl | rfl | rfl
    · cases hq; exact ⟨fun n z => ⟨fun k h => (by cases h), kI, gI, oI, hI⟩, fI⟩
    · cases hq; exact ⟨fun n z => ⟨fun k h => (by cases h), kZ, gZ, oZ, hZ⟩, fZ⟩
    · cases hq; exact ⟨fun n z => ⟨fun k h => (by cases h), kB, gB, oB, hB⟩, fB⟩
    · cases hq; exact ⟨fun n z => ⟨fun k h => (by cases h), kA, gA, oA, hA⟩, fA⟩
    · cases hq; exact ⟨fun n z => ⟨fun k h => (by cases h), kL, gL, oL, hL⟩, kL, oL, gL, hL, fL0, fL⟩
  · rcases List.mem_iff_getElem?.mp hq with ⟨k, hk⟩
    have hk10 : k < 10 := (List.getElem?_eq_some_iff.mp hk).1
    rcases (show k = 0 ∨ k = 1 ∨ k = 2 ∨ k = 3 ∨ k = 4 ∨ k = 5 ∨ k = 6 ∨ k = 7 ∨ k = 8 ∨ k = 9 by omega) with rfl | rfl | rfl | rfl | rfl | rfl | rfl | rfl | rfl | rfl
    · cases hk; exact va_Nw.of rfl (hn 82 _ (by decide +kernel))
    · cases hk; exact va_Nw.of rfl (hn 155 _ (by decide +kernel))
    · cases hk; exact va_Nw.of rfl (hn 224 _ (by decide +kernel))
    · cases hk; exact va_Nw.of rfl (hn 227 _ (by decide +kernel))
    · cases hk; exact va_Nw.of rfl (hn 247 _ (by decide +kernel))
    · cases hk; exact va_Nw.of rfl (hn 250 _ (by decide +kernel))
    · cases hk; exact va_Nw.of rfl (hn 269 _ (by decide +kernel))
    · cases hk; exact va_Nw.of rfl (hn 272 _ (by decide +kernel))
    · cases hk; exact va_Nw.of rfl (hn 298 _ (by decide +kernel))
    · cases hk; exact va_Nw.of rfl (hn 301 _ (by decide +kernel))

/-- a truth, as the machine answers it -/
abbrev vz (P : Prop) (r : Int32) : Prop := (P ∧ r = 1) ∨ (¬ P ∧ r = 0)
/-- 0 .. 7 -/
abbrev ik (k : Int32) : Prop := 0 ≤ k.toInt ∧ k.toInt ≤ 7
theorem oq_cases (r : Option Nat) : r = none ∨ ∃ a, r = some a := by cases r with
  | none => exact Or.inl rfl
  | some a => exact Or.inr ⟨a, rfl⟩
/-- the long that a number of a kind with these bits is told by -/
def f_told (k : Int32) (b : Int64) : Int64 :=
  if k = 0 then b &&& 1 else if k = 1 then b.toInt32.toInt8.toInt32.toInt64 else if k = 2 then b.toInt32.toInt16.toInt32.toInt64
  else if k = 3 then ((b.toInt32.toUInt32 % 65536).toInt32).toInt64 else if k = 4 then b.toInt32.toInt64
  else if k = 6 then (if 2139095040 < b &&& 2147483647 then 2143289344 else b.toInt32.toInt64)
  else if k = 7 then (if 9218868437227405312 < b &&& 9223372036854775807 then 9221120237041090560 else b) else b
theorem lc_gt {x y : Int64} (h : ¬ lg_cmp x y ≤ 0) : y < x := by
  unfold lg_cmp at h
  by_cases h1 : y < x
  · exact h1
  · rw [if_neg (show ¬ x > y from h1)] at h
    split at h <;> exact absurd (by decide) h
theorem lc_le {x y : Int64} (h : lg_cmp x y ≤ 0) : ¬ y < x := by
  intro h1
  unfold lg_cmp at h
  rw [if_pos (show x > y from h1)] at h
  exact absurd h (by decide)
set_option maxHeartbeats 4000000 in
set_option maxRecDepth 100000 in
theorem c_X1_isKind (l : Launch) (p0 : Int32) : Met l yX1_isKind wsX1_isKind ({ frames := 0, cells := 0, slots := 0, locals := 0 }) (va_Pc [.int p0] (fun _ => True)) (vp_Si (fun r => vz (ik p0) r)) 0 0 (fun _ => False) := by
  refine Met.ofW (cc := cX1_isKind) (maxL := 1) (ret := (some .boolean)) (by decide) rfl ?_
  intro p e s m args below meth c s₁ B hml hv
  obtain ⟨rfl, -⟩ := hv
  have hx := B.exec
  have hb := B.bytes
  have hr := B.returns
  have hts := atoms_spec (ws := wsX1_isKind) B.pre
  have hown : s.vm.findClass RX1 = some m.cls := findClass_of_methodNamed B.named
  have hlocks := B.notSynchronized
  have hl := lv_entry ([.int p0]) (n := 1) (Nat.le_of_ble_eq_true rfl)
  rw [lg_entry_eq]
  generalize (lg_sl ([.int p0]) ++ List.replicate (1 - (lg_sl ([.int p0])).length) Slot.unset).toArray = ls at hl ⊢
  have hl : lv_has ls 1 [(0, .int p0)] := hl
  refine lv_iload_n hx hb dX1_isKind_0 rfl (lv_at hl 0 rfl) ?_
  refine lv_if_lt (tgt := 14) hx hb dX1_isKind_1 (by decide) (fun c_1 => ?_) (fun c_1 => ?_)
  · skip
    refine lv_iconst (v := 0) hx hb dX1_isKind_14 (by decide) ?_
    exact W.zret (v := 0) hx hb hr (by decide) (fun t ht hW => ⟨_, rfl, (Or.inr ⟨by (try simp only [Int32.le_iff_toInt_le, Int32.lt_iff_toInt_lt, Int32.reduceToInt] at c_1); omega, rfl⟩), ht⟩) (fun q hq => absurd hq List.not_mem_nil) dX1_isKind_15
  · skip
    refine lv_iload_n hx hb dX1_isKind_4 rfl (lv_at hl 0 rfl) ?_
    refine lv_bipush (v := 7) hx hb dX1_isKind_5 (by decide) ?_
    refine lv_icmp_gt (tgt := 14) hx hb dX1_isKind_7 (by decide) (fun c_2 => ?_) (fun c_2 => ?_)
    · skip
      refine lv_iconst (v := 0) hx hb dX1_isKind_14 (by decide) ?_
      exact W.zret (v := 0) hx hb hr (by decide) (fun t ht hW => ⟨_, rfl, (Or.inr ⟨by (try simp only [Int32.le_iff_toInt_le, Int32.lt_iff_toInt_lt, Int32.reduceToInt] at c_1 c_2); omega, rfl⟩), ht⟩) (fun q hq => absurd hq List.not_mem_nil) dX1_isKind_15
    · skip
      refine lv_iconst (v := 1) hx hb dX1_isKind_10 (by decide) ?_
      refine lv_goto (tgt := 15) hx hb dX1_isKind_11 (by decide) ?_
      exact W.zret (v := 1) hx hb hr (by decide) (fun t ht hW => ⟨_, rfl, (Or.inl ⟨by (try simp only [Int32.le_iff_toInt_le, Int32.lt_iff_toInt_lt, Int32.reduceToInt] at c_1 c_2); omega, rfl⟩), ht⟩) (fun q hq => absurd hq List.not_mem_nil) dX1_isKind_15

set_option maxHeartbeats 4000000 in
set_option maxRecDepth 100000 in
theorem c_X3_isTray (l : Launch) (p0 : Int32) : Met l yX3_isTray wsX3_isTray ({ frames := 0, cells := 0, slots := 0, locals := 0 }) (va_Pc [.int p0] (fun _ => True)) (vp_Si (fun r => vz (ik p0) r)) 0 0 (fun _ => False) := by
  refine Met.ofW (cc := cX3_isTray) (maxL := 1) (ret := (some .boolean)) (by decide) rfl ?_
  intro p e s m args below meth c s₁ B hml hv
  obtain ⟨rfl, -⟩ := hv
  have hx := B.exec
  have hb := B.bytes
  have hr := B.returns
  have hts := atoms_spec (ws := wsX3_isTray) B.pre
  have hown : s.vm.findClass RX3 = some m.cls := findClass_of_methodNamed B.named
  have hlocks := B.notSynchronized
  have hl := lv_entry ([.int p0]) (n := 1) (Nat.le_of_ble_eq_true rfl)
  rw [lg_entry_eq]
  generalize (lg_sl ([.int p0]) ++ List.replicate (1 - (lg_sl ([.int p0])).length) Slot.unset).toArray = ls at hl ⊢
  have hl : lv_has ls 1 [(0, .int p0)] := hl
  refine lv_iload_n hx hb dX3_isTray_0 rfl (lv_at hl 0 rfl) ?_
  refine lv_if_lt (tgt := 14) hx hb dX3_isTray_1 (by decide) (fun c_1 => ?_) (fun c_1 => ?_)
  · skip
    refine lv_iconst (v := 0) hx hb dX3_isTray_14 (by decide) ?_
    exact W.zret (v := 0) hx hb hr (by decide) (fun t ht hW => ⟨_, rfl, (Or.inr ⟨by (try simp only [Int32.le_iff_toInt_le, Int32.lt_iff_toInt_lt, Int32.reduceToInt] at c_1); omega, rfl⟩), ht⟩) (fun q hq => absurd hq List.not_mem_nil) dX3_isTray_15
  · skip
    refine lv_iload_n hx hb dX3_isTray_4 rfl (lv_at hl 0 rfl) ?_
    refine lv_bipush (v := 8) hx hb dX3_isTray_5 (by decide) ?_
    refine lv_icmp_ge (tgt := 14) hx hb dX3_isTray_7 (by decide) (fun c_2 => ?_) (fun c_2 => ?_)
    · skip
      refine lv_iconst (v := 0) hx hb dX3_isTray_14 (by decide) ?_
      exact W.zret (v := 0) hx hb hr (by decide) (fun t ht hW => ⟨_, rfl, (Or.inr ⟨by (try simp only [Int32.le_iff_toInt_le, Int32.lt_iff_toInt_lt, Int32.reduceToInt] at c_1 c_2); omega, rfl⟩), ht⟩) (fun q hq => absurd hq List.not_mem_nil) dX3_isTray_15
    · skip
      refine lv_iconst (v := 1) hx hb dX3_isTray_10 (by decide) ?_
      refine lv_goto (tgt := 15) hx hb dX3_isTray_11 (by decide) ?_
      exact W.zret (v := 1) hx hb hr (by decide) (fun t ht hW => ⟨_, rfl, (Or.inl ⟨by (try simp only [Int32.le_iff_toInt_le, Int32.lt_iff_toInt_lt, Int32.reduceToInt] at c_1 c_2); omega, rfl⟩), ht⟩) (fun q hq => absurd hq List.not_mem_nil) dX3_isTray_15

set_option maxHeartbeats 4000000 in
set_option maxRecDepth 100000 in
theorem c_X4_in (l : Launch) (p0 : Int32) (p1 : Int32) (p2 : Int32) : Met l yX4_in wsX4_in ({ frames := 0, cells := 0, slots := 0, locals := 0 }) (va_Pc [.int p0, .int p1, .int p2] (fun _ => True)) (vp_Si (fun r => vz (p1.toInt ≤ p0.toInt ∧ p0.toInt ≤ p2.toInt) r)) 0 0 (fun _ => False) := by
  refine Met.ofW (cc := cX4_in) (maxL := 3) (ret := (some .boolean)) (by decide) rfl ?_
  intro p e s m args below meth c s₁ B hml hv
  obtain ⟨rfl, -⟩ := hv
  have hx := B.exec
  have hb := B.bytes
  have hr := B.returns
  have hts := atoms_spec (ws := wsX4_in) B.pre
  have hown : s.vm.findClass RX4 = some m.cls := findClass_of_methodNamed B.named
  have hlocks := B.notSynchronized
  have hl := lv_entry ([.int p0, .int p1, .int p2]) (n := 3) (Nat.le_of_ble_eq_true rfl)
  rw [lg_entry_eq]
  generalize (lg_sl ([.int p0, .int p1, .int p2]) ++ List.replicate (3 - (lg_sl ([.int p0, .int p1, .int p2])).length) Slot.unset).toArray = ls at hl ⊢
  have hl : lv_has ls 3 [(0, .int p0), (1, .int p1), (2, .int p2)] := hl
  refine lv_iload_n hx hb dX4_in_0 rfl (lv_at hl 0 rfl) ?_
  refine lv_iload_n hx hb dX4_in_1 rfl (lv_at hl 1 rfl) ?_
  refine lv_icmp_lt (tgt := 14) hx hb dX4_in_2 (by decide) (fun c_1 => ?_) (fun c_1 => ?_)
  · skip
    refine lv_iconst (v := 0) hx hb dX4_in_14 (by decide) ?_
    exact W.zret (v := 0) hx hb hr (by decide) (fun t ht hW => ⟨_, rfl, (Or.inr ⟨by (try simp only [Int32.le_iff_toInt_le, Int32.lt_iff_toInt_lt, Int32.reduceToInt] at c_1); omega, rfl⟩), ht⟩) (fun q hq => absurd hq List.not_mem_nil) dX4_in_15
  · skip
    refine lv_iload_n hx hb dX4_in_5 rfl (lv_at hl 0 rfl) ?_
    refine lv_iload_n hx hb dX4_in_6 rfl (lv_at hl 2 rfl) ?_
    refine lv_icmp_gt (tgt := 14) hx hb dX4_in_7 (by decide) (fun c_2 => ?_) (fun c_2 => ?_)
    · skip
      refine lv_iconst (v := 0) hx hb dX4_in_14 (by decide) ?_
      exact W.zret (v := 0) hx hb hr (by decide) (fun t ht hW => ⟨_, rfl, (Or.inr ⟨by (try simp only [Int32.le_iff_toInt_le, Int32.lt_iff_toInt_lt, Int32.reduceToInt] at c_1 c_2); omega, rfl⟩), ht⟩) (fun q hq => absurd hq List.not_mem_nil) dX4_in_15
    · skip
      refine lv_iconst (v := 1) hx hb dX4_in_10 (by decide) ?_
      refine lv_goto (tgt := 15) hx hb dX4_in_11 (by decide) ?_
      exact W.zret (v := 1) hx hb hr (by decide) (fun t ht hW => ⟨_, rfl, (Or.inl ⟨by (try simp only [Int32.le_iff_toInt_le, Int32.lt_iff_toInt_lt, Int32.reduceToInt] at c_1 c_2); omega, rfl⟩), ht⟩) (fun q hq => absurd hq List.not_mem_nil) dX4_in_15

set_option maxHeartbeats 4000000 in
set_option maxRecDepth 100000 in
theorem c_X4_isTray (l : Launch) (p0 : Int32) : Met l yX4_isTray wsX4_isTray ({ frames := 1, cells := 0, slots := 0, locals := 22 }) (va_Pc [.int p0] (fun _ => True)) (vp_Si (fun r => vz (ik p0) r)) 0 0 (fun _ => False) := by
  refine Met.ofW (cc := cX4_isTray) (maxL := 1) (ret := (some .boolean)) (by decide) rfl ?_
  intro p e s m args below meth c s₁ B hml hv
  obtain ⟨rfl, -⟩ := hv
  have hx := B.exec
  have hb := B.bytes
  have hr := B.returns
  have hts := atoms_spec (ws := wsX4_isTray) B.pre
  have hown : s.vm.findClass RX4 = some m.cls := findClass_of_methodNamed B.named
  have hlocks := B.notSynchronized
  have hl := lv_entry ([.int p0]) (n := 1) (Nat.le_of_ble_eq_true rfl)
  rw [lg_entry_eq]
  generalize (lg_sl ([.int p0]) ++ List.replicate (1 - (lg_sl ([.int p0])).length) Slot.unset).toArray = ls at hl ⊢
  have hl : lv_has ls 1 [(0, .int p0)] := hl
  refine lv_iload_n hx hb dX4_isTray_0 rfl (lv_at hl 0 rfl) ?_
  refine lv_iconst (v := 0) hx hb dX4_isTray_1 (by decide) ?_
  refine lv_bipush (v := 7) hx hb dX4_isTray_2 (by decide) ?_
  refine vp_callSi (W.runS (As := [.int p0, .int 0, .int 7]) (rest := []) ⟨hx, hb, hml, hown, hts⟩ (c_X4_in l (p0) (0) (7)) (va_cwS 3 hts gX4_isTray_X4_in rfl rfl rfl (by decide +kernel) ⟨Nat.le_of_ble_eq_true rfl, Nat.le_of_ble_eq_true rfl⟩) ⟨fun a U g mk q => q, fun U hU hW => ⟨rfl, trivial⟩⟩ rfl rfl hl.1 rfl (lv_room (Nat.le_of_ble_eq_true rfl)) dX4_isTray_4 ⟨Nat.le_of_ble_eq_true rfl, Nat.le_of_ble_eq_true rfl⟩) (fun r_1 hr_1 => ?_)
  rcases hr_1 with ⟨b_2, rfl⟩ | ⟨b_2, rfl⟩
  · skip
    exact W.zret (v := 1) hx hb hr (by decide) (fun t ht hW => ⟨_, rfl, (Or.inl ⟨by (try simp only [Int32.reduceToInt] at b_2); (first | exact b_2 | omega), rfl⟩), ht⟩) (fun q hq => absurd hq List.not_mem_nil) dX4_isTray_7
  · skip
    exact W.zret (v := 0) hx hb hr (by decide) (fun t ht hW => ⟨_, rfl, (Or.inr ⟨by (try simp only [Int32.reduceToInt] at b_2); (first | exact b_2 | omega), rfl⟩), ht⟩) (fun q hq => absurd hq List.not_mem_nil) dX4_isTray_7

set_option maxHeartbeats 4000000 in
set_option maxRecDepth 100000 in
theorem c_X4_isKind (l : Launch) (p0 : Int32) : Met l yX4_isKind wsX4_isKind ({ frames := 1, cells := 0, slots := 0, locals := 22 }) (va_Pc [.int p0] (fun _ => True)) (vp_Si (fun r => vz (ik p0) r)) 0 0 (fun _ => False) := by
  refine Met.ofW (cc := cX4_isKind) (maxL := 1) (ret := (some .boolean)) (by decide) rfl ?_
  intro p e s m args below meth c s₁ B hml hv
  obtain ⟨rfl, -⟩ := hv
  have hx := B.exec
  have hb := B.bytes
  have hr := B.returns
  have hts := atoms_spec (ws := wsX4_isKind) B.pre
  have hown : s.vm.findClass RX4 = some m.cls := findClass_of_methodNamed B.named
  have hlocks := B.notSynchronized
  have hl := lv_entry ([.int p0]) (n := 1) (Nat.le_of_ble_eq_true rfl)
  rw [lg_entry_eq]
  generalize (lg_sl ([.int p0]) ++ List.replicate (1 - (lg_sl ([.int p0])).length) Slot.unset).toArray = ls at hl ⊢
  have hl : lv_has ls 1 [(0, .int p0)] := hl
  refine lv_iload_n hx hb dX4_isKind_0 rfl (lv_at hl 0 rfl) ?_
  refine lv_iconst (v := 0) hx hb dX4_isKind_1 (by decide) ?_
  refine lv_bipush (v := 7) hx hb dX4_isKind_2 (by decide) ?_
  refine vp_callSi (W.runS (As := [.int p0, .int 0, .int 7]) (rest := []) ⟨hx, hb, hml, hown, hts⟩ (c_X4_in l (p0) (0) (7)) (va_cwS 3 hts gX4_isKind_X4_in rfl rfl rfl (by decide +kernel) ⟨Nat.le_of_ble_eq_true rfl, Nat.le_of_ble_eq_true rfl⟩) ⟨fun a U g mk q => q, fun U hU hW => ⟨rfl, trivial⟩⟩ rfl rfl hl.1 rfl (lv_room (Nat.le_of_ble_eq_true rfl)) dX4_isKind_4 ⟨Nat.le_of_ble_eq_true rfl, Nat.le_of_ble_eq_true rfl⟩) (fun r_1 hr_1 => ?_)
  rcases hr_1 with ⟨b_2, rfl⟩ | ⟨b_2, rfl⟩
  · skip
    exact W.zret (v := 1) hx hb hr (by decide) (fun t ht hW => ⟨_, rfl, (Or.inl ⟨by (try simp only [Int32.reduceToInt] at b_2); (first | exact b_2 | omega), rfl⟩), ht⟩) (fun q hq => absurd hq List.not_mem_nil) dX4_isKind_7
  · skip
    exact W.zret (v := 0) hx hb hr (by decide) (fun t ht hW => ⟨_, rfl, (Or.inr ⟨by (try simp only [Int32.reduceToInt] at b_2); (first | exact b_2 | omega), rfl⟩), ht⟩) (fun q hq => absurd hq List.not_mem_nil) dX4_isKind_7

set_option maxHeartbeats 4000000 in
set_option maxRecDepth 100000 in
theorem c_X1_told (l : Launch) (p0 : Int32) (p1 : Int64) : Met l yX1_told wsX1_told ({ frames := 0, cells := 0, slots := 0, locals := 0 }) (va_Pc [.int p0, .long p1] (fun _ => True)) (vp_Sl (fun r => r = f_told p0 p1)) 0 0 (fun _ => False) := by
  refine Met.ofW (cc := cX1_told) (maxL := 3) (ret := (some .long)) (by decide) rfl ?_
  intro p e s m args below meth c s₁ B hml hv
  obtain ⟨rfl, -⟩ := hv
  have hx := B.exec
  have hb := B.bytes
  have hr := B.returns
  have hts := atoms_spec (ws := wsX1_told) B.pre
  have hown : s.vm.findClass RX1 = some m.cls := findClass_of_methodNamed B.named
  have hlocks := B.notSynchronized
  have hl := lv_entry ([.int p0, .long p1]) (n := 3) (Nat.le_of_ble_eq_true rfl)
  rw [lg_entry_eq]
  generalize (lg_sl ([.int p0, .long p1]) ++ List.replicate (3 - (lg_sl ([.int p0, .long p1])).length) Slot.unset).toArray = ls at hl ⊢
  have hl : lv_has ls 3 [(0, .int p0), (1, .long p1)] := hl
  refine lv_iload_n hx hb dX1_told_0 rfl (lv_at hl 0 rfl) ?_
  by_cases k_1 : p0 = 0
  · refine lv_tableIn (tgt := 48) hx hb dX1_told_1 (by rw [k_1]; decide) (by rw [k_1]; decide) (by rw [k_1]; rfl) (by decide) ?_
    refine lv_lload_n hx hb dX1_told_48 rfl (lv_at hl 1 rfl) ?_
    refine lv_lconst (v := 1) hx hb dX1_told_49 (by decide) ?_
    refine lv_land hx hb dX1_told_50 ?_
    exact W.lret (v := (p1 &&& 1)) hx hb hr (fun t ht hW => ⟨_, rfl, (by simp [f_told, k_1]; done), ht⟩) (fun q hq => absurd hq List.not_mem_nil) dX1_told_51
  by_cases k_2 : p0 = 1
  · refine lv_tableIn (tgt := 52) hx hb dX1_told_1 (by rw [k_2]; decide) (by rw [k_2]; decide) (by rw [k_2]; rfl) (by decide) ?_
    refine lv_lload_n hx hb dX1_told_52 rfl (lv_at hl 1 rfl) ?_
    refine lv_l2i hx hb dX1_told_53 rfl ?_
    refine lv_i2b hx hb dX1_told_54 rfl ?_
    refine lv_i2l hx hb dX1_told_55 rfl ?_
    exact W.lret (v := ((((((p1 : Int64).toInt32) : Int32).toInt8.toInt32) : Int32).toInt64)) hx hb hr (fun t ht hW => ⟨_, rfl, (by simp [f_told, k_2, k_1]; done), ht⟩) (fun q hq => absurd hq List.not_mem_nil) dX1_told_56
  by_cases k_3 : p0 = 2
  · refine lv_tableIn (tgt := 57) hx hb dX1_told_1 (by rw [k_3]; decide) (by rw [k_3]; decide) (by rw [k_3]; rfl) (by decide) ?_
    refine lv_lload_n hx hb dX1_told_57 rfl (lv_at hl 1 rfl) ?_
    refine lv_l2i hx hb dX1_told_58 rfl ?_
    refine lv_i2s hx hb dX1_told_59 rfl ?_
    refine lv_i2l hx hb dX1_told_60 rfl ?_
    exact W.lret (v := ((((((p1 : Int64).toInt32) : Int32).toInt16.toInt32) : Int32).toInt64)) hx hb hr (fun t ht hW => ⟨_, rfl, (by simp [f_told, k_3, k_1, k_2]; done), ht⟩) (fun q hq => absurd hq List.not_mem_nil) dX1_told_61
  by_cases k_4 : p0 = 3
  · refine lv_tableIn (tgt := 62) hx hb dX1_told_1 (by rw [k_4]; decide) (by rw [k_4]; decide) (by rw [k_4]; rfl) (by decide) ?_
    refine lv_lload_n hx hb dX1_told_62 rfl (lv_at hl 1 rfl) ?_
    refine lv_l2i hx hb dX1_told_63 rfl ?_
    refine lv_i2c hx hb dX1_told_64 rfl ?_
    refine lv_i2l hx hb dX1_told_65 rfl ?_
    exact W.lret (v := (((((((p1 : Int64).toInt32) : Int32).toUInt32 % 65536).toInt32) : Int32).toInt64)) hx hb hr (fun t ht hW => ⟨_, rfl, (by simp [f_told, k_4, k_1, k_2, k_3]; done), ht⟩) (fun q hq => absurd hq List.not_mem_nil) dX1_told_66
  by_cases k_5 : p0 = 4
  · refine lv_tableIn (tgt := 67) hx hb dX1_told_1 (by rw [k_5]; decide) (by rw [k_5]; decide) (by rw [k_5]; rfl) (by decide) ?_
    refine lv_lload_n hx hb dX1_told_67 rfl (lv_at hl 1 rfl) ?_
    refine lv_l2i hx hb dX1_told_68 rfl ?_
    refine lv_i2l hx hb dX1_told_69 rfl ?_
    exact W.lret (v := ((((p1 : Int64).toInt32) : Int32).toInt64)) hx hb hr (fun t ht hW => ⟨_, rfl, (by simp [f_told, k_5, k_1, k_2, k_3, k_4]; done), ht⟩) (fun q hq => absurd hq List.not_mem_nil) dX1_told_70
  by_cases k_6 : p0 = 6
  · refine lv_tableIn (tgt := 71) hx hb dX1_told_1 (by rw [k_6]; decide) (by rw [k_6]; decide) (by rw [k_6]; rfl) (by decide) ?_
    refine lv_lload_n hx hb dX1_told_71 rfl (lv_at hl 1 rfl) ?_
    refine lv_ldc2 (v := 2147483647) hx hb hown (hts (.constantLong RX1 17 (2147483647)) (by decide +kernel)) dX1_told_72 ?_
    refine lv_land hx hb dX1_told_75 ?_
    refine lv_ldc2 (v := 2139095040) hx hb hown (hts (.constantLong RX1 19 (2139095040)) (by decide +kernel)) dX1_told_76 ?_
    refine W.lcmp hx hb dX1_told_79 ?_
    refine lv_if_le (tgt := 89) hx hb dX1_told_80 (by decide) (fun c_7 => ?_) (fun c_7 => ?_)
    · skip
      refine lv_lload_n hx hb dX1_told_89 rfl (lv_at hl 1 rfl) ?_
      refine lv_l2i hx hb dX1_told_90 rfl ?_
      refine lv_i2l hx hb dX1_told_91 rfl ?_
      exact W.lret (v := ((((p1 : Int64).toInt32) : Int32).toInt64)) hx hb hr (fun t ht hW => ⟨_, rfl, (by (first | have c_7x := lc_gt c_7 | have c_7x := lc_le c_7); simp [f_told, k_6, k_1, k_2, k_3, k_4, k_5, c_7x]; done), ht⟩) (fun q hq => absurd hq List.not_mem_nil) dX1_told_92
    · skip
      refine lv_ldc2 (v := 2143289344) hx hb hown (hts (.constantLong RX1 21 (2143289344)) (by decide +kernel)) dX1_told_83 ?_
      refine lv_goto (tgt := 92) hx hb dX1_told_86 (by decide) ?_
      exact W.lret (v := 2143289344) hx hb hr (fun t ht hW => ⟨_, rfl, (by (first | have c_7x := lc_gt c_7 | have c_7x := lc_le c_7); simp [f_told, k_6, k_1, k_2, k_3, k_4, k_5, c_7x]; done), ht⟩) (fun q hq => absurd hq List.not_mem_nil) dX1_told_92
  by_cases k_8 : p0 = 7
  · refine lv_tableIn (tgt := 93) hx hb dX1_told_1 (by rw [k_8]; decide) (by rw [k_8]; decide) (by rw [k_8]; rfl) (by decide) ?_
    refine lv_lload_n hx hb dX1_told_93 rfl (lv_at hl 1 rfl) ?_
    refine lv_ldc2 (v := 9223372036854775807) hx hb hown (hts (.constantLong RX1 23 (9223372036854775807)) (by decide +kernel)) dX1_told_94 ?_
    refine lv_land hx hb dX1_told_97 ?_
    refine lv_ldc2 (v := 9218868437227405312) hx hb hown (hts (.constantLong RX1 25 (9218868437227405312)) (by decide +kernel)) dX1_told_98 ?_
    refine W.lcmp hx hb dX1_told_101 ?_
    refine lv_if_le (tgt := 111) hx hb dX1_told_102 (by decide) (fun c_9 => ?_) (fun c_9 => ?_)
    · skip
      refine lv_lload_n hx hb dX1_told_111 rfl (lv_at hl 1 rfl) ?_
      exact W.lret (v := p1) hx hb hr (fun t ht hW => ⟨_, rfl, (by (first | have c_9x := lc_gt c_9 | have c_9x := lc_le c_9); simp [f_told, k_8, k_1, k_2, k_3, k_4, k_5, k_6, c_9x]; done), ht⟩) (fun q hq => absurd hq List.not_mem_nil) dX1_told_112
    · skip
      refine lv_ldc2 (v := 9221120237041090560) hx hb hown (hts (.constantLong RX1 27 (9221120237041090560)) (by decide +kernel)) dX1_told_105 ?_
      refine lv_goto (tgt := 112) hx hb dX1_told_108 (by decide) ?_
      exact W.lret (v := 9221120237041090560) hx hb hr (fun t ht hW => ⟨_, rfl, (by (first | have c_9x := lc_gt c_9 | have c_9x := lc_le c_9); simp [f_told, k_8, k_1, k_2, k_3, k_4, k_5, k_6, c_9x]; done), ht⟩) (fun q hq => absurd hq List.not_mem_nil) dX1_told_112
  by_cases k_10 : p0 = 5
  · refine lv_tableIn (tgt := 113) hx hb dX1_told_1 (by rw [k_10]; decide) (by rw [k_10]; decide) (by rw [k_10]; rfl) (by decide) ?_
    refine lv_lload_n hx hb dX1_told_113 rfl (lv_at hl 1 rfl) ?_
    exact W.lret (v := p1) hx hb hr (fun t ht hW => ⟨_, rfl, (by simp [f_told, k_10, k_1, k_2, k_3, k_4, k_5, k_6, k_8]; done), ht⟩) (fun q hq => absurd hq List.not_mem_nil) dX1_told_114
  refine lv_tableOut (tgt := 113) hx hb dX1_told_1 (by have z0 := lv_neT k_1 (show (0 : Int32).toInt = 0 by decide); have z1 := lv_neT k_2 (show (1 : Int32).toInt = 1 by decide); have z2 := lv_neT k_3 (show (2 : Int32).toInt = 2 by decide); have z3 := lv_neT k_4 (show (3 : Int32).toInt = 3 by decide); have z4 := lv_neT k_5 (show (4 : Int32).toInt = 4 by decide); have z5 := lv_neT k_6 (show (6 : Int32).toInt = 6 by decide); have z6 := lv_neT k_8 (show (7 : Int32).toInt = 7 by decide); have z7 := lv_neT k_10 (show (5 : Int32).toInt = 5 by decide); omega) (by decide) ?_
  refine lv_lload_n hx hb dX1_told_113 rfl (lv_at hl 1 rfl) ?_
  exact W.lret (v := p1) hx hb hr (fun t ht hW => ⟨_, rfl, (by simp [f_told, k_1, k_2, k_3, k_4, k_5, k_6, k_8, k_10]; done), ht⟩) (fun q hq => absurd hq List.not_mem_nil) dX1_told_114

set_option maxHeartbeats 4000000 in
set_option maxRecDepth 100000 in
theorem c_X4_told (l : Launch) (p0 : Int32) (p1 : Int64) : Met l yX4_told wsX4_told ({ frames := 0, cells := 0, slots := 0, locals := 0 }) (va_Pc [.int p0, .long p1] (fun _ => True)) (vp_Sl (fun r => r = f_told p0 p1)) 0 0 (fun _ => False) := by
  refine Met.ofW (cc := cX4_told) (maxL := 3) (ret := (some .long)) (by decide) rfl ?_
  intro p e s m args below meth c s₁ B hml hv
  obtain ⟨rfl, -⟩ := hv
  have hx := B.exec
  have hb := B.bytes
  have hr := B.returns
  have hts := atoms_spec (ws := wsX4_told) B.pre
  have hown : s.vm.findClass RX4 = some m.cls := findClass_of_methodNamed B.named
  have hlocks := B.notSynchronized
  have hl := lv_entry ([.int p0, .long p1]) (n := 3) (Nat.le_of_ble_eq_true rfl)
  rw [lg_entry_eq]
  generalize (lg_sl ([.int p0, .long p1]) ++ List.replicate (3 - (lg_sl ([.int p0, .long p1])).length) Slot.unset).toArray = ls at hl ⊢
  have hl : lv_has ls 3 [(0, .int p0), (1, .long p1)] := hl
  refine lv_iload_n hx hb dX4_told_0 rfl (lv_at hl 0 rfl) ?_
  by_cases k_1 : p0 = 0
  · refine lv_tableIn (tgt := 48) hx hb dX4_told_1 (by rw [k_1]; decide) (by rw [k_1]; decide) (by rw [k_1]; rfl) (by decide) ?_
    refine lv_lload_n hx hb dX4_told_48 rfl (lv_at hl 1 rfl) ?_
    refine lv_lconst (v := 1) hx hb dX4_told_49 (by decide) ?_
    refine lv_land hx hb dX4_told_50 ?_
    exact W.lret (v := (p1 &&& 1)) hx hb hr (fun t ht hW => ⟨_, rfl, (by simp [f_told, k_1]; done), ht⟩) (fun q hq => absurd hq List.not_mem_nil) dX4_told_51
  by_cases k_2 : p0 = 1
  · refine lv_tableIn (tgt := 52) hx hb dX4_told_1 (by rw [k_2]; decide) (by rw [k_2]; decide) (by rw [k_2]; rfl) (by decide) ?_
    refine lv_lload_n hx hb dX4_told_52 rfl (lv_at hl 1 rfl) ?_
    refine lv_l2i hx hb dX4_told_53 rfl ?_
    refine lv_i2b hx hb dX4_told_54 rfl ?_
    refine lv_i2l hx hb dX4_told_55 rfl ?_
    exact W.lret (v := ((((((p1 : Int64).toInt32) : Int32).toInt8.toInt32) : Int32).toInt64)) hx hb hr (fun t ht hW => ⟨_, rfl, (by simp [f_told, k_2, k_1]; done), ht⟩) (fun q hq => absurd hq List.not_mem_nil) dX4_told_56
  by_cases k_3 : p0 = 2
  · refine lv_tableIn (tgt := 57) hx hb dX4_told_1 (by rw [k_3]; decide) (by rw [k_3]; decide) (by rw [k_3]; rfl) (by decide) ?_
    refine lv_lload_n hx hb dX4_told_57 rfl (lv_at hl 1 rfl) ?_
    refine lv_l2i hx hb dX4_told_58 rfl ?_
    refine lv_i2s hx hb dX4_told_59 rfl ?_
    refine lv_i2l hx hb dX4_told_60 rfl ?_
    exact W.lret (v := ((((((p1 : Int64).toInt32) : Int32).toInt16.toInt32) : Int32).toInt64)) hx hb hr (fun t ht hW => ⟨_, rfl, (by simp [f_told, k_3, k_1, k_2]; done), ht⟩) (fun q hq => absurd hq List.not_mem_nil) dX4_told_61
  by_cases k_4 : p0 = 3
  · refine lv_tableIn (tgt := 62) hx hb dX4_told_1 (by rw [k_4]; decide) (by rw [k_4]; decide) (by rw [k_4]; rfl) (by decide) ?_
    refine lv_lload_n hx hb dX4_told_62 rfl (lv_at hl 1 rfl) ?_
    refine lv_l2i hx hb dX4_told_63 rfl ?_
    refine lv_i2c hx hb dX4_told_64 rfl ?_
    refine lv_i2l hx hb dX4_told_65 rfl ?_
    exact W.lret (v := (((((((p1 : Int64).toInt32) : Int32).toUInt32 % 65536).toInt32) : Int32).toInt64)) hx hb hr (fun t ht hW => ⟨_, rfl, (by simp [f_told, k_4, k_1, k_2, k_3]; done), ht⟩) (fun q hq => absurd hq List.not_mem_nil) dX4_told_66
  by_cases k_5 : p0 = 4
  · refine lv_tableIn (tgt := 67) hx hb dX4_told_1 (by rw [k_5]; decide) (by rw [k_5]; decide) (by rw [k_5]; rfl) (by decide) ?_
    refine lv_lload_n hx hb dX4_told_67 rfl (lv_at hl 1 rfl) ?_
    refine lv_l2i hx hb dX4_told_68 rfl ?_
    refine lv_i2l hx hb dX4_told_69 rfl ?_
    exact W.lret (v := ((((p1 : Int64).toInt32) : Int32).toInt64)) hx hb hr (fun t ht hW => ⟨_, rfl, (by simp [f_told, k_5, k_1, k_2, k_3, k_4]; done), ht⟩) (fun q hq => absurd hq List.not_mem_nil) dX4_told_70
  by_cases k_6 : p0 = 6
  · refine lv_tableIn (tgt := 71) hx hb dX4_told_1 (by rw [k_6]; decide) (by rw [k_6]; decide) (by rw [k_6]; rfl) (by decide) ?_
    refine lv_lload_n hx hb dX4_told_71 rfl (lv_at hl 1 rfl) ?_
    refine lv_ldc2 (v := 2147483647) hx hb hown (hts (.constantLong RX4 48 (2147483647)) (by decide +kernel)) dX4_told_72 ?_
    refine lv_land hx hb dX4_told_75 ?_
    refine lv_ldc2 (v := 2139095040) hx hb hown (hts (.constantLong RX4 50 (2139095040)) (by decide +kernel)) dX4_told_76 ?_
    refine W.lcmp hx hb dX4_told_79 ?_
    refine lv_if_le (tgt := 89) hx hb dX4_told_80 (by decide) (fun c_7 => ?_) (fun c_7 => ?_)
    · skip
      refine lv_lload_n hx hb dX4_told_89 rfl (lv_at hl 1 rfl) ?_
      refine lv_l2i hx hb dX4_told_90 rfl ?_
      refine lv_i2l hx hb dX4_told_91 rfl ?_
      exact W.lret (v := ((((p1 : Int64).toInt32) : Int32).toInt64)) hx hb hr (fun t ht hW => ⟨_, rfl, (by (first | have c_7x := lc_gt c_7 | have c_7x := lc_le c_7); simp [f_told, k_6, k_1, k_2, k_3, k_4, k_5, c_7x]; done), ht⟩) (fun q hq => absurd hq List.not_mem_nil) dX4_told_92
    · skip
      refine lv_ldc2 (v := 2143289344) hx hb hown (hts (.constantLong RX4 52 (2143289344)) (by decide +kernel)) dX4_told_83 ?_
      refine lv_goto (tgt := 92) hx hb dX4_told_86 (by decide) ?_
      exact W.lret (v := 2143289344) hx hb hr (fun t ht hW => ⟨_, rfl, (by (first | have c_7x := lc_gt c_7 | have c_7x := lc_le c_7); simp [f_told, k_6, k_1, k_2, k_3, k_4, k_5, c_7x]; done), ht⟩) (fun q hq => absurd hq List.not_mem_nil) dX4_told_92
  by_cases k_8 : p0 = 7
  · refine lv_tableIn (tgt := 93) hx hb dX4_told_1 (by rw [k_8]; decide) (by rw [k_8]; decide) (by rw [k_8]; rfl) (by decide) ?_
    refine lv_lload_n hx hb dX4_told_93 rfl (lv_at hl 1 rfl) ?_
    refine lv_ldc2 (v := 9223372036854775807) hx hb hown (hts (.constantLong RX4 54 (9223372036854775807)) (by decide +kernel)) dX4_told_94 ?_
    refine lv_land hx hb dX4_told_97 ?_
    refine lv_ldc2 (v := 9218868437227405312) hx hb hown (hts (.constantLong RX4 56 (9218868437227405312)) (by decide +kernel)) dX4_told_98 ?_
    refine W.lcmp hx hb dX4_told_101 ?_
    refine lv_if_le (tgt := 111) hx hb dX4_told_102 (by decide) (fun c_9 => ?_) (fun c_9 => ?_)
    · skip
      refine lv_lload_n hx hb dX4_told_111 rfl (lv_at hl 1 rfl) ?_
      exact W.lret (v := p1) hx hb hr (fun t ht hW => ⟨_, rfl, (by (first | have c_9x := lc_gt c_9 | have c_9x := lc_le c_9); simp [f_told, k_8, k_1, k_2, k_3, k_4, k_5, k_6, c_9x]; done), ht⟩) (fun q hq => absurd hq List.not_mem_nil) dX4_told_112
    · skip
      refine lv_ldc2 (v := 9221120237041090560) hx hb hown (hts (.constantLong RX4 58 (9221120237041090560)) (by decide +kernel)) dX4_told_105 ?_
      refine lv_goto (tgt := 112) hx hb dX4_told_108 (by decide) ?_
      exact W.lret (v := 9221120237041090560) hx hb hr (fun t ht hW => ⟨_, rfl, (by (first | have c_9x := lc_gt c_9 | have c_9x := lc_le c_9); simp [f_told, k_8, k_1, k_2, k_3, k_4, k_5, k_6, c_9x]; done), ht⟩) (fun q hq => absurd hq List.not_mem_nil) dX4_told_112
  by_cases k_10 : p0 = 5
  · refine lv_tableIn (tgt := 113) hx hb dX4_told_1 (by rw [k_10]; decide) (by rw [k_10]; decide) (by rw [k_10]; rfl) (by decide) ?_
    refine lv_lload_n hx hb dX4_told_113 rfl (lv_at hl 1 rfl) ?_
    exact W.lret (v := p1) hx hb hr (fun t ht hW => ⟨_, rfl, (by simp [f_told, k_10, k_1, k_2, k_3, k_4, k_5, k_6, k_8]; done), ht⟩) (fun q hq => absurd hq List.not_mem_nil) dX4_told_114
  refine lv_tableOut (tgt := 113) hx hb dX4_told_1 (by have z0 := lv_neT k_1 (show (0 : Int32).toInt = 0 by decide); have z1 := lv_neT k_2 (show (1 : Int32).toInt = 1 by decide); have z2 := lv_neT k_3 (show (2 : Int32).toInt = 2 by decide); have z3 := lv_neT k_4 (show (3 : Int32).toInt = 3 by decide); have z4 := lv_neT k_5 (show (4 : Int32).toInt = 4 by decide); have z5 := lv_neT k_6 (show (6 : Int32).toInt = 6 by decide); have z6 := lv_neT k_8 (show (7 : Int32).toInt = 7 by decide); have z7 := lv_neT k_10 (show (5 : Int32).toInt = 5 by decide); omega) (by decide) ?_
  refine lv_lload_n hx hb dX4_told_113 rfl (lv_at hl 1 rfl) ?_
  exact W.lret (v := p1) hx hb hr (fun t ht hW => ⟨_, rfl, (by simp [f_told, k_1, k_2, k_3, k_4, k_5, k_6, k_8, k_10]; done), ht⟩) (fun q hq => absurd hq List.not_mem_nil) dX4_told_114

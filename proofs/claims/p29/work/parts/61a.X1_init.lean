set_option maxHeartbeats 4000000 in
set_option maxRecDepth 100000 in
theorem c_X1_init (l : Launch) (D : va_G) (cI cJ : ClassId) (h0 sz : Nat) : Met l yX1_init wsX1_init ({ frames := 1, cells := 1, slots := 36, locals := 24 } : Room) (va_Pc [.ref h0] (preC D cI cJ sz [(h0, .inr (1, [.null]))])) (QC D [(h0, .inr (1, [.null]))] sz (fun w1 => ∃ q1 : Nat, w1 = [(h0, .inr (1, [.ref q1])), (q1, .inl (cI, 36, .inl (fun _ => 0)))])) 1 36 (va_A [(h0, .inr (1, [.null]))] sz) := by
  refine Met.ofW (cc := cX1_init) (maxL := 1) (ret := none) (by decide) rfl ?_
  intro p e s m args below meth c s₁ B hml hv
  obtain ⟨hargs, hsz, hP, hK, hN, hD0⟩ := hv
  subst hsz
  have hx := B.exec
  have hb := B.bytes
  have hr := B.returns
  have hts := atoms_spec (ws := wsX1_init) B.pre
  have hown : s.vm.findClass RX1 = some m.cls := findClass_of_methodNamed B.named
  have hlocks := B.notSynchronized
  have hin : meth.name = "<init>" := (name_of_methodNamed B.named B.method).1
  have iX1 : ∀ w ∈ wsX10, w ∈ wsX1_init := by decide +kernel
  have k9 := hts (.fieldLink RX1 9 "PressedFerns$Debts" "sums" "[I") (by decide +kernel)
  have hD := hD0.self (sz := s.heap.size)
  have hA : ∀ q : Nat, s.heap.size ≤ q → va_A [(h0, .inr (1, [.null]))] s.heap.size q := fun q h => Or.inr h
  have hS : va_S (va_A [(h0, .inr (1, [.null]))] s.heap.size) s.heap s.heap [] := va_S.rf
  have hl := lv_entry ([.ref h0]) (n := 1) (Nat.le_of_ble_eq_true rfl)
  refine W.eq (g2 := F0 m 0 ((lg_sl ([.ref h0]) ++ List.replicate (1 - (lg_sl ([.ref h0])).length) Slot.unset).toArray) []) (by rw [hargs, lg_entry_eq]) ?_
  generalize (lg_sl ([.ref h0]) ++ List.replicate (1 - (lg_sl ([.ref h0])).length) Slot.unset).toArray = ls at hl ⊢
  have hl : lv_has ls 1 [(0, .ref h0)] := hl
  show W p l e ({ frames := 1, cells := 1, slots := 36, locals := 24 } : Room) s m args below meth c s.heap [] 0 0 (MQ below (QC D [(h0, .inr (1, [.null]))] s.heap.size (fun w1 => ∃ q1 : Nat, w1 = [(h0, .inr (1, [.ref q1])), (q1, .inl (cI, 36, .inl (fun _ => 0)))])) args s 1 36 (va_A [(h0, .inr (1, [.null]))] s.heap.size)) (F0 m 0 ls [])
  generalize hQ0 : (MQ below (QC D [(h0, .inr (1, [.null]))] s.heap.size (fun w1 => ∃ q1 : Nat, w1 = [(h0, .inr (1, [.ref q1])), (q1, .inl (cI, 36, .inl (fun _ => 0)))])) args s 1 36 (va_A [(h0, .inr (1, [.null]))] s.heap.size)) = Q0
  generalize hA0 : va_A [(h0, .inr (1, [.null]))] s.heap.size = A0 at hD hS hA
  refine lv_aload_n hx hb dX1_init_0 rfl (lv_at hl 0 rfl) ?_
  refine W.objInit hx hb hown (hts (.methodLink RX1 3 objectInit) (by decide +kernel)) (hts (.instanceMethod objectInit) (by decide +kernel)) (hts (.code objectInit ⟨#[0xb1]⟩ 1 none) (by decide +kernel)) rfl (by rw [hml]; exact hl.1) rfl dX1_init_1 (Nat.le_of_ble_eq_true rfl) (Nat.le_of_ble_eq_true rfl) ?_
  refine W.eq (g2 := F0 m 4 ls []) rfl ?_
  refine lv_aload_n hx hb dX1_init_4 rfl (lv_at hl 0 rfl) ?_
  refine lv_bipush (v := 36) hx hb dX1_init_5 (by decide) ?_
  refine va_newa (atype := .int) hx hb (hts (.arrayClass .int) (by decide +kernel)) rfl hK hP hD hS hA (a0 := (36, .inl (fun _ => 0))) (N' := 36) (fun _ => rfl) (by decide) (by decide) (by decide) (Nat.le_of_ble_eq_true rfl) (Nat.le_of_ble_eq_true rfl) dX1_init_7 (fun q1 cA H hK1 hP hD hS => ?_)
  have hcA := tyI_eq hK1
  rw [hcA] at hP hD
  have hP : va_P D vwCl [(h0, .inr (1, [.null])), (q1, .inl (cI, 36, .inl (fun _ => 0)))] H := hP
  have hD : va_D A0 [(h0, .inr (1, [.null])), (q1, .inl (cI, 36, .inl (fun _ => 0)))] := hD
  refine W.widen (k := 1) (n := 36) (Nat.le_of_ble_eq_true rfl) (Nat.le_of_ble_eq_true rfl) ?_
  refine va_putF (D := D) (own := RX1) (ci := 1) (v := .ref q1) (ty := .array .int) (C := RX1) (T := TX1) (N := 1) hx hb hts iX1 tyX1 tyX1_ok nmX1 hown hK hP hD hS 0 rfl rfl 0 (by decide) k9 (fun _ h9 => h9) rfl hin rfl (by decide +kernel) rfl rfl (Nat.le_of_ble_eq_true rfl) dX1_init_9 (fun H locs hP hD hS => ?_)
  have hP : va_P D vwCl [(h0, .inr (1, [.ref q1])), (q1, .inl (cI, 36, .inl (fun _ => 0)))] H := hP
  have hD : va_D A0 [(h0, .inr (1, [.ref q1])), (q1, .inl (cI, 36, .inl (fun _ => 0)))] := hD
  refine W.widen (k := 1) (n := 36) (Nat.le_refl _) (Nat.le_refl _) ?_
  refine rt_c (w1 := [(h0, .inr (1, [.ref q1])), (q1, .inl (cI, 36, .inl (fun _ => 0)))]) hA0 hQ0 hx hb hr hlocks ?_ hP hD hS dX1_init_12
  exact ⟨q1, rfl⟩

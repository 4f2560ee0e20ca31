theorem in_X0_init_0 : ∀ w ∈ wsX00, w ∈ wsX0_init := fun _ h => List.mem_cons_of_mem _ (List.mem_append_right _ h)
set_option maxRecDepth 100000 in
set_option maxHeartbeats 4000000 in
theorem c_X0_init (l : Launch) (D : va_G) (cC cI cJ cO : ClassId) (h : Nat) : CI (S := Nat × Nat × Nat) l D (tyL cC cI cJ cO) yX0_init wsX0_init ({ frames := 1, cells := 3, slots := 72, locals := 20 }) [.ref h] [(h, .inr (0, [.null, .null, .null, .int (nI 0), .int (nI 0), .int (nI 0), .int (nI 0), .int (nI 0), .int (nI 0)]))] (fun _ => True) (fun u_ => [(h, .inr (0, [.ref u_.1, .ref u_.2.1, .ref u_.2.2, .int (nI 0), .int (nI 0), .int (nI 0), .int (nI 0), .int (nI 0), .int (nI 0)])), (u_.1, .inl (cI, 24, .inl (fun j_ => nI (0)))), (u_.2.1, .inl (cI, 24, .inl (fun j_ => nI (0)))), (u_.2.2, .inl (cI, 24, .inl (fun j_ => nI (0))))]) 3 72 := by
  refine CI_in (cc := cX0_init) (maxL := 1) (by decide) rfl rfl (Nat.le_of_ble_eq_true rfl) ?_
  intro X hX hI hA hret
  show GW X [(h, .inr (0, [.null, .null, .null, .int (nI 0), .int (nI 0), .int (nI 0), .int (nI 0), .int (nI 0), .int (nI 0)]))] [(0, .ref h)] [] 0 0 0
  refine g_aload_n 0 (hd := dX0_init_0) (C := hX) rfl rfl ?_
  refine g_objInit hX dX0_init_1 (by decide +kernel) (by decide +kernel) (by decide +kernel) (Nat.le_of_ble_eq_true rfl) (Nat.le_of_ble_eq_true rfl) ?_
  refine g_aload_n 0 (hd := dX0_init_4) (C := hX) rfl rfl ?_
  refine g_bipush (v := nI 24) hX dX0_init_5 (by decide) ?_
  refine g_newaI hX 1 dX0_init_7 (by decide +kernel) rfl (Nat.le_of_ble_eq_true rfl) (Nat.le_of_ble_eq_true rfl) (Nat.le_of_ble_eq_true rfl) (fun k => ?_)
  show GW X [(h, .inr (0, [.null, .null, .null, .int (nI 0), .int (nI 0), .int (nI 0), .int (nI 0), .int (nI 0), .int (nI 0)])), (k, .inl (cI, 24, .inl (fun j_ => nI (0))))] [(0, .ref h)] [.ref k, .ref h] 9 1 24
  refine g_putF (hd := dX0_init_9) hX hI 0 0 [(h, .inr (0, [.ref k, .null, .null, .int (nI 0), .int (nI 0), .int (nI 0), .int (nI 0), .int (nI 0), .int (nI 0)])), (k, .inl (cI, 24, .inl (fun j_ => nI (0))))] rfl rfl in_X0_init_0 tyX0_ok nmX0 (by decide) (by decide +kernel) rfl rfl rfl rfl (Nat.le_of_ble_eq_true rfl) rfl ?_
  refine g_aload_n 0 (hd := dX0_init_12) (C := hX) rfl rfl ?_
  refine g_bipush (v := nI 24) hX dX0_init_13 (by decide) ?_
  refine g_newaI hX 1 dX0_init_15 (by decide +kernel) rfl (Nat.le_of_ble_eq_true rfl) (Nat.le_of_ble_eq_true rfl) (Nat.le_of_ble_eq_true rfl) (fun f => ?_)
  show GW X [(h, .inr (0, [.ref k, .null, .null, .int (nI 0), .int (nI 0), .int (nI 0), .int (nI 0), .int (nI 0), .int (nI 0)])), (k, .inl (cI, 24, .inl (fun j_ => nI (0)))), (f, .inl (cI, 24, .inl (fun j_ => nI (0))))] [(0, .ref h)] [.ref f, .ref h] 17 2 48
  refine g_putF (hd := dX0_init_17) hX hI 0 1 [(h, .inr (0, [.ref k, .ref f, .null, .int (nI 0), .int (nI 0), .int (nI 0), .int (nI 0), .int (nI 0), .int (nI 0)])), (k, .inl (cI, 24, .inl (fun j_ => nI (0)))), (f, .inl (cI, 24, .inl (fun j_ => nI (0))))] rfl rfl in_X0_init_0 tyX0_ok nmX0 (by decide) (by decide +kernel) rfl rfl rfl rfl (Nat.le_of_ble_eq_true rfl) rfl ?_
  refine g_aload_n 0 (hd := dX0_init_20) (C := hX) rfl rfl ?_
  refine g_bipush (v := nI 24) hX dX0_init_21 (by decide) ?_
  refine g_newaI hX 1 dX0_init_23 (by decide +kernel) rfl (Nat.le_of_ble_eq_true rfl) (Nat.le_of_ble_eq_true rfl) (Nat.le_of_ble_eq_true rfl) (fun s => ?_)
  show GW X [(h, .inr (0, [.ref k, .ref f, .null, .int (nI 0), .int (nI 0), .int (nI 0), .int (nI 0), .int (nI 0), .int (nI 0)])), (k, .inl (cI, 24, .inl (fun j_ => nI (0)))), (f, .inl (cI, 24, .inl (fun j_ => nI (0)))), (s, .inl (cI, 24, .inl (fun j_ => nI (0))))] [(0, .ref h)] [.ref s, .ref h] 25 3 72
  refine g_putF (hd := dX0_init_25) hX hI 0 2 [(h, .inr (0, [.ref k, .ref f, .ref s, .int (nI 0), .int (nI 0), .int (nI 0), .int (nI 0), .int (nI 0), .int (nI 0)])), (k, .inl (cI, 24, .inl (fun j_ => nI (0)))), (f, .inl (cI, 24, .inl (fun j_ => nI (0)))), (s, .inl (cI, 24, .inl (fun j_ => nI (0))))] rfl rfl in_X0_init_0 tyX0_ok nmX0 (by decide) (by decide +kernel) rfl rfl rfl rfl (Nat.le_of_ble_eq_true rfl) rfl ?_
  exact hret (k, f, s) _ _ trivial dX0_init_28

theorem in_X1_init_1 : ∀ w ∈ wsX10, w ∈ wsX1_init := fun _ h => List.mem_cons_of_mem _ (List.mem_append_right _ h)
set_option maxRecDepth 100000 in
set_option maxHeartbeats 4000000 in
theorem c_X1_init (l : Launch) (D : va_G) (cC cI cJ cO : ClassId) (e : Nat) : CI (S := Nat × Nat) l D (tyL cC cI cJ cO) yX1_init wsX1_init ({ frames := 1, cells := 2, slots := 512, locals := 20 }) [.ref e] [(e, .inr (1, [.null, .null, .int (nI 0), .int (nI 0), .int (nI 0), .int (nI 0), .int (nI 0)]))] (fun _ => True) (fun u_ => [(e, .inr (1, [.ref u_.1, .ref u_.2, .int (nI 0), .int (nI 0), .int (nI 0), .int (nI 0), .int (nI 0)])), (u_.1, .inl (cI, 256, .inl (fun j_ => nI (0)))), (u_.2, .inl (cI, 256, .inl (fun j_ => nI (0))))]) 2 512 := by
  refine CI_in (cc := cX1_init) (maxL := 1) (by decide) rfl rfl (Nat.le_of_ble_eq_true rfl) ?_
  intro X hX hI hA hret
  show GW X [(e, .inr (1, [.null, .null, .int (nI 0), .int (nI 0), .int (nI 0), .int (nI 0), .int (nI 0)]))] [(0, .ref e)] [] 0 0 0
  refine g_aload_n 0 (hd := dX1_init_0) (C := hX) rfl rfl ?_
  refine g_objInit hX dX1_init_1 (by decide +kernel) (by decide +kernel) (by decide +kernel) (Nat.le_of_ble_eq_true rfl) (Nat.le_of_ble_eq_true rfl) ?_
  refine g_aload_n 0 (hd := dX1_init_4) (C := hX) rfl rfl ?_
  refine g_sipush (v := nI 256) hX dX1_init_5 (by decide) ?_
  refine g_newaI hX 1 dX1_init_8 (by decide +kernel) rfl (Nat.le_of_ble_eq_true rfl) (Nat.le_of_ble_eq_true rfl) (Nat.le_of_ble_eq_true rfl) (fun we => ?_)
  show GW X [(e, .inr (1, [.null, .null, .int (nI 0), .int (nI 0), .int (nI 0), .int (nI 0), .int (nI 0)])), (we, .inl (cI, 256, .inl (fun j_ => nI (0))))] [(0, .ref e)] [.ref we, .ref e] 10 1 256
  refine g_putF (hd := dX1_init_10) hX hI 0 0 [(e, .inr (1, [.ref we, .null, .int (nI 0), .int (nI 0), .int (nI 0), .int (nI 0), .int (nI 0)])), (we, .inl (cI, 256, .inl (fun j_ => nI (0))))] rfl rfl in_X1_init_1 tyX1_ok nmX1 (by decide) (by decide +kernel) rfl rfl rfl rfl (Nat.le_of_ble_eq_true rfl) rfl ?_
  refine g_aload_n 0 (hd := dX1_init_13) (C := hX) rfl rfl ?_
  refine g_sipush (v := nI 256) hX dX1_init_14 (by decide) ?_
  refine g_newaI hX 1 dX1_init_17 (by decide +kernel) rfl (Nat.le_of_ble_eq_true rfl) (Nat.le_of_ble_eq_true rfl) (Nat.le_of_ble_eq_true rfl) (fun re => ?_)
  show GW X [(e, .inr (1, [.ref we, .null, .int (nI 0), .int (nI 0), .int (nI 0), .int (nI 0), .int (nI 0)])), (we, .inl (cI, 256, .inl (fun j_ => nI (0)))), (re, .inl (cI, 256, .inl (fun j_ => nI (0))))] [(0, .ref e)] [.ref re, .ref e] 19 2 512
  refine g_putF (hd := dX1_init_19) hX hI 0 1 [(e, .inr (1, [.ref we, .ref re, .int (nI 0), .int (nI 0), .int (nI 0), .int (nI 0), .int (nI 0)])), (we, .inl (cI, 256, .inl (fun j_ => nI (0)))), (re, .inl (cI, 256, .inl (fun j_ => nI (0))))] rfl rfl in_X1_init_1 tyX1_ok nmX1 (by decide) (by decide +kernel) rfl rfl rfl rfl (Nat.le_of_ble_eq_true rfl) rfl ?_
  exact hret (we, re) _ _ trivial dX1_init_22

theorem in_X3_init_3 : ∀ w ∈ wsX30, w ∈ wsX3_init := fun _ h => List.mem_cons_of_mem _ (List.mem_append_right _ h)
set_option maxRecDepth 100000 in
set_option maxHeartbeats 4000000 in
theorem c_X3_init (l : Launch) (D : va_G) (cC cI cJ cO : ClassId) (ln : Nat) : CI (S := Nat) l D (tyL cC cI cJ cO) yX3_init wsX3_init ({ frames := 1, cells := 1, slots := 32, locals := 20 }) [.ref ln] [(ln, .inr (3, [.null]))] (fun _ => True) (fun u_ => [(ln, .inr (3, [.ref u_])), (u_, .inl (cJ, 32, .inr (.inl (fun _ => (0 : Int64)))))]) 1 32 := by
  refine CI_in (cc := cX3_init) (maxL := 1) (by decide) rfl rfl (Nat.le_of_ble_eq_true rfl) ?_
  intro X hX hI hA hret
  show GW X [(ln, .inr (3, [.null]))] [(0, .ref ln)] [] 0 0 0
  refine g_aload_n 0 (hd := dX3_init_0) (C := hX) rfl rfl ?_
  refine g_objInit hX dX3_init_1 (by decide +kernel) (by decide +kernel) (by decide +kernel) (Nat.le_of_ble_eq_true rfl) (Nat.le_of_ble_eq_true rfl) ?_
  refine g_aload_n 0 (hd := dX3_init_4) (C := hX) rfl rfl ?_
  refine g_bipush (v := nI 32) hX dX3_init_5 (by decide) ?_
  refine g_newaJ hX 2 dX3_init_7 (by decide +kernel) rfl (Nat.le_of_ble_eq_true rfl) (Nat.le_of_ble_eq_true rfl) (Nat.le_of_ble_eq_true rfl) (fun va => ?_)
  show GW X [(ln, .inr (3, [.null])), (va, .inl (cJ, 32, .inr (.inl (fun _ => (0 : Int64)))))] [(0, .ref ln)] [.ref va, .ref ln] 9 1 32
  refine g_putF (hd := dX3_init_9) hX hI 0 0 [(ln, .inr (3, [.ref va])), (va, .inl (cJ, 32, .inr (.inl (fun _ => (0 : Int64)))))] rfl rfl in_X3_init_3 tyX3_ok nmX3 (by decide) (by decide +kernel) rfl rfl rfl rfl (Nat.le_of_ble_eq_true rfl) rfl ?_
  exact hret va _ _ trivial dX3_init_12

theorem in_X4_init_4 : ∀ w ∈ wsX40, w ∈ wsX4_init := fun _ h => List.mem_cons_of_mem _ (List.mem_append_right _ h)
set_option maxRecDepth 100000 in
set_option maxHeartbeats 4000000 in
theorem c_X4_init (l : Launch) (D : va_G) (cC cI cJ cO : ClassId) (v : Nat) : CI (S := Nat × Nat × Nat × Nat) l D (tyL cC cI cJ cO) yX4_init wsX4_init ({ frames := 1, cells := 4, slots := 832, locals := 20 }) [.ref v] [(v, .inr (4, [.null, .null, .null, .null, .int (nI 0), .int (nI 0), .long (0 : Int64), .long (0 : Int64), .long (0 : Int64), .long (0 : Int64), .int (nI 0), .int (nI 0), .int (nI 0)]))] (fun _ => True) (fun u_ => [(v, .inr (4, [.ref u_.1, .ref u_.2.1, .ref u_.2.2.1, .ref u_.2.2.2, .int (nI 0), .int (nI 0), .long (0 : Int64), .long (0 : Int64), .long (0 : Int64), .long (0 : Int64), .int (nI 0), .int (nI 0), .int (nI 0)])), (u_.1, .inl (cI, 256, .inl (fun j_ => nI (0)))), (u_.2.1, .inl (cJ, 256, .inr (.inl (fun _ => (0 : Int64))))), (u_.2.2.1, .inl (cJ, 256, .inr (.inl (fun _ => (0 : Int64))))), (u_.2.2.2, .inl (cI, 64, .inl (fun j_ => nI (0))))]) 4 832 := by
  refine CI_in (cc := cX4_init) (maxL := 1) (by decide) rfl rfl (Nat.le_of_ble_eq_true rfl) ?_
  intro X hX hI hA hret
  show GW X [(v, .inr (4, [.null, .null, .null, .null, .int (nI 0), .int (nI 0), .long (0 : Int64), .long (0 : Int64), .long (0 : Int64), .long (0 : Int64), .int (nI 0), .int (nI 0), .int (nI 0)]))] [(0, .ref v)] [] 0 0 0
  refine g_aload_n 0 (hd := dX4_init_0) (C := hX) rfl rfl ?_
  refine g_objInit hX dX4_init_1 (by decide +kernel) (by decide +kernel) (by decide +kernel) (Nat.le_of_ble_eq_true rfl) (Nat.le_of_ble_eq_true rfl) ?_
  refine g_aload_n 0 (hd := dX4_init_4) (C := hX) rfl rfl ?_
  refine g_sipush (v := nI 256) hX dX4_init_5 (by decide) ?_
  refine g_newaI hX 1 dX4_init_8 (by decide +kernel) rfl (Nat.le_of_ble_eq_true rfl) (Nat.le_of_ble_eq_true rfl) (Nat.le_of_ble_eq_true rfl) (fun ou => ?_)
  show GW X [(v, .inr (4, [.null, .null, .null, .null, .int (nI 0), .int (nI 0), .long (0 : Int64), .long (0 : Int64), .long (0 : Int64), .long (0 : Int64), .int (nI 0), .int (nI 0), .int (nI 0)])), (ou, .inl (cI, 256, .inl (fun j_ => nI (0))))] [(0, .ref v)] [.ref ou, .ref v] 10 1 256
  refine g_putF (hd := dX4_init_10) hX hI 0 0 [(v, .inr (4, [.ref ou, .null, .null, .null, .int (nI 0), .int (nI 0), .long (0 : Int64), .long (0 : Int64), .long (0 : Int64), .long (0 : Int64), .int (nI 0), .int (nI 0), .int (nI 0)])), (ou, .inl (cI, 256, .inl (fun j_ => nI (0))))] rfl rfl in_X4_init_4 tyX4_ok nmX4 (by decide) (by decide +kernel) rfl rfl rfl rfl (Nat.le_of_ble_eq_true rfl) rfl ?_
  refine g_aload_n 0 (hd := dX4_init_13) (C := hX) rfl rfl ?_
  refine g_sipush (v := nI 256) hX dX4_init_14 (by decide) ?_
  refine g_newaJ hX 2 dX4_init_17 (by decide +kernel) rfl (Nat.le_of_ble_eq_true rfl) (Nat.le_of_ble_eq_true rfl) (Nat.le_of_ble_eq_true rfl) (fun ex => ?_)
  show GW X [(v, .inr (4, [.ref ou, .null, .null, .null, .int (nI 0), .int (nI 0), .long (0 : Int64), .long (0 : Int64), .long (0 : Int64), .long (0 : Int64), .int (nI 0), .int (nI 0), .int (nI 0)])), (ou, .inl (cI, 256, .inl (fun j_ => nI (0)))), (ex, .inl (cJ, 256, .inr (.inl (fun _ => (0 : Int64)))))] [(0, .ref v)] [.ref ex, .ref v] 19 2 512
  refine g_putF (hd := dX4_init_19) hX hI 0 1 [(v, .inr (4, [.ref ou, .ref ex, .null, .null, .int (nI 0), .int (nI 0), .long (0 : Int64), .long (0 : Int64), .long (0 : Int64), .long (0 : Int64), .int (nI 0), .int (nI 0), .int (nI 0)])), (ou, .inl (cI, 256, .inl (fun j_ => nI (0)))), (ex, .inl (cJ, 256, .inr (.inl (fun _ => (0 : Int64)))))] rfl rfl in_X4_init_4 tyX4_ok nmX4 (by decide) (by decide +kernel) rfl rfl rfl rfl (Nat.le_of_ble_eq_true rfl) rfl ?_
  refine g_aload_n 0 (hd := dX4_init_22) (C := hX) rfl rfl ?_
  refine g_sipush (v := nI 256) hX dX4_init_23 (by decide) ?_
  refine g_newaJ hX 2 dX4_init_26 (by decide +kernel) rfl (Nat.le_of_ble_eq_true rfl) (Nat.le_of_ble_eq_true rfl) (Nat.le_of_ble_eq_true rfl) (fun pa => ?_)
  show GW X [(v, .inr (4, [.ref ou, .ref ex, .null, .null, .int (nI 0), .int (nI 0), .long (0 : Int64), .long (0 : Int64), .long (0 : Int64), .long (0 : Int64), .int (nI 0), .int (nI 0), .int (nI 0)])), (ou, .inl (cI, 256, .inl (fun j_ => nI (0)))), (ex, .inl (cJ, 256, .inr (.inl (fun _ => (0 : Int64))))), (pa, .inl (cJ, 256, .inr (.inl (fun _ => (0 : Int64)))))] [(0, .ref v)] [.ref pa, .ref v] 28 3 768
  refine g_putF (hd := dX4_init_28) hX hI 0 2 [(v, .inr (4, [.ref ou, .ref ex, .ref pa, .null, .int (nI 0), .int (nI 0), .long (0 : Int64), .long (0 : Int64), .long (0 : Int64), .long (0 : Int64), .int (nI 0), .int (nI 0), .int (nI 0)])), (ou, .inl (cI, 256, .inl (fun j_ => nI (0)))), (ex, .inl (cJ, 256, .inr (.inl (fun _ => (0 : Int64))))), (pa, .inl (cJ, 256, .inr (.inl (fun _ => (0 : Int64)))))] rfl rfl in_X4_init_4 tyX4_ok nmX4 (by decide) (by decide +kernel) rfl rfl rfl rfl (Nat.le_of_ble_eq_true rfl) rfl ?_
  refine g_aload_n 0 (hd := dX4_init_31) (C := hX) rfl rfl ?_
  refine g_bipush (v := nI 64) hX dX4_init_32 (by decide) ?_
  refine g_newaI hX 1 dX4_init_34 (by decide +kernel) rfl (Nat.le_of_ble_eq_true rfl) (Nat.le_of_ble_eq_true rfl) (Nat.le_of_ble_eq_true rfl) (fun te => ?_)
  show GW X [(v, .inr (4, [.ref ou, .ref ex, .ref pa, .null, .int (nI 0), .int (nI 0), .long (0 : Int64), .long (0 : Int64), .long (0 : Int64), .long (0 : Int64), .int (nI 0), .int (nI 0), .int (nI 0)])), (ou, .inl (cI, 256, .inl (fun j_ => nI (0)))), (ex, .inl (cJ, 256, .inr (.inl (fun _ => (0 : Int64))))), (pa, .inl (cJ, 256, .inr (.inl (fun _ => (0 : Int64))))), (te, .inl (cI, 64, .inl (fun j_ => nI (0))))] [(0, .ref v)] [.ref te, .ref v] 36 4 832
  refine g_putF (hd := dX4_init_36) hX hI 0 3 [(v, .inr (4, [.ref ou, .ref ex, .ref pa, .ref te, .int (nI 0), .int (nI 0), .long (0 : Int64), .long (0 : Int64), .long (0 : Int64), .long (0 : Int64), .int (nI 0), .int (nI 0), .int (nI 0)])), (ou, .inl (cI, 256, .inl (fun j_ => nI (0)))), (ex, .inl (cJ, 256, .inr (.inl (fun _ => (0 : Int64))))), (pa, .inl (cJ, 256, .inr (.inl (fun _ => (0 : Int64))))), (te, .inl (cI, 64, .inl (fun j_ => nI (0))))] rfl rfl in_X4_init_4 tyX4_ok nmX4 (by decide) (by decide +kernel) rfl rfl rfl rfl (Nat.le_of_ble_eq_true rfl) rfl ?_
  exact hret (ou, ex, pa, te) _ _ trivial dX4_init_39

theorem in_X5_init_5 : ∀ w ∈ wsX50, w ∈ wsX5_init := fun _ h => List.mem_cons_of_mem _ (List.mem_append_right _ h)
set_option maxRecDepth 100000 in
set_option maxHeartbeats 4000000 in
theorem c_X5_init (l : Launch) (D : va_G) (cC cI cJ cO : ClassId) (a : Nat) : CI (S := Nat × Nat) l D (tyL cC cI cJ cO) yX5_init wsX5_init ({ frames := 1, cells := 2, slots := 203, locals := 20 }) [.ref a] [(a, .inr (5, [.null, .null, .int (nI 0), .int (nI 0)]))] (fun _ => True) (fun u_ => [(a, .inr (5, [.ref u_.1, .ref u_.2, .int (nI 0), .int (nI 0)])), (u_.1, .inl (cC, 200, .inl (fun j_ => nI (0)))), (u_.2, .inl (cI, 3, .inl (fun j_ => nI (0))))]) 2 203 := by
  refine CI_in (cc := cX5_init) (maxL := 1) (by decide) rfl rfl (Nat.le_of_ble_eq_true rfl) ?_
  intro X hX hI hA hret
  show GW X [(a, .inr (5, [.null, .null, .int (nI 0), .int (nI 0)]))] [(0, .ref a)] [] 0 0 0
  refine g_aload_n 0 (hd := dX5_init_0) (C := hX) rfl rfl ?_
  refine g_objInit hX dX5_init_1 (by decide +kernel) (by decide +kernel) (by decide +kernel) (Nat.le_of_ble_eq_true rfl) (Nat.le_of_ble_eq_true rfl) ?_
  refine g_aload_n 0 (hd := dX5_init_4) (C := hX) rfl rfl ?_
  refine g_sipush (v := nI 200) hX dX5_init_5 (by decide) ?_
  refine g_newaC hX 0 dX5_init_8 (by decide +kernel) rfl (Nat.le_of_ble_eq_true rfl) (Nat.le_of_ble_eq_true rfl) (Nat.le_of_ble_eq_true rfl) (fun la => ?_)
  show GW X [(a, .inr (5, [.null, .null, .int (nI 0), .int (nI 0)])), (la, .inl (cC, 200, .inl (fun j_ => nI (0))))] [(0, .ref a)] [.ref la, .ref a] 10 1 200
  refine g_putF (hd := dX5_init_10) hX hI 0 0 [(a, .inr (5, [.ref la, .null, .int (nI 0), .int (nI 0)])), (la, .inl (cC, 200, .inl (fun j_ => nI (0))))] rfl rfl in_X5_init_5 tyX5_ok nmX5 (by decide) (by decide +kernel) rfl rfl rfl rfl (Nat.le_of_ble_eq_true rfl) rfl ?_
  refine g_aload_n 0 (hd := dX5_init_13) (C := hX) rfl rfl ?_
  refine g_iconst (v := nI 3) hX dX5_init_14 (by decide) ?_
  refine g_newaI hX 1 dX5_init_15 (by decide +kernel) rfl (Nat.le_of_ble_eq_true rfl) (Nat.le_of_ble_eq_true rfl) (Nat.le_of_ble_eq_true rfl) (fun na => ?_)
  show GW X [(a, .inr (5, [.ref la, .null, .int (nI 0), .int (nI 0)])), (la, .inl (cC, 200, .inl (fun j_ => nI (0)))), (na, .inl (cI, 3, .inl (fun j_ => nI (0))))] [(0, .ref a)] [.ref na, .ref a] 17 2 203
  refine g_putF (hd := dX5_init_17) hX hI 0 1 [(a, .inr (5, [.ref la, .ref na, .int (nI 0), .int (nI 0)])), (la, .inl (cC, 200, .inl (fun j_ => nI (0)))), (na, .inl (cI, 3, .inl (fun j_ => nI (0))))] rfl rfl in_X5_init_5 tyX5_ok nmX5 (by decide) (by decide +kernel) rfl rfl rfl rfl (Nat.le_of_ble_eq_true rfl) rfl ?_
  exact hret (la, na) _ _ trivial dX5_init_20

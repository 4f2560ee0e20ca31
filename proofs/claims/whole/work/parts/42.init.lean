theorem in_X0_init_0 : ∀ w ∈ wsX00, w ∈ wsX0_init := fun _ h => List.mem_cons_of_mem _ (List.mem_append_right _ h)
set_option maxRecDepth 100000 in
set_option maxHeartbeats 4000000 in
theorem c_X0_init (l : Launch) (D : va_G) (cC cI cJ cO : ClassId) (h : Nat) : CI (S := Nat × Nat × Nat) l D (tyL cC cI cJ cO) yX0_init wsX0_init ({ frames := 1, cells := 3, slots := 72, locals := 20 }) [.ref h] [(h, .inr (0, [.null, .null, .null, .int (nI 0), .int (nI 0), .int (nI 0), .int (nI 0), .int (nI 0), .int (nI 0)]))] (fun _ => True) (fun u_ => [(h, .inr (0, [.ref u_.1, .ref u_.2.1, .ref u_.2.2, .int (nI 0), .int (nI 0), .int (nI 0), .int (nI 0), .int (nI 0), .int (nI 0)])), (u_.1, .inl (cI, 24, .inl (fun j_ => nI (0)))), (u_.2.1, .inl (cI, 24, .inl (fun j_ => nI (0)))), (u_.2.2, .inl (cI, 24, .inl (fun j_ => nI (0))))]) 3 72 := by
  refine CI_in (cc := cX0_init) (maxL := 1) (by decide) rfl rfl (Nat.le_of_ble_eq_true rfl) ?_
  intro X hX hI hA hret
  show GW X [(h, .inr (0, [.null, .null, .null, .int (nI 0), .int (nI 0), .int (nI 0), .int (nI 0), .int (nI 0), .int (nI 0)]))] [(0, .ref h)] [] 0 0 0
  refine g_aload_n 0 (hd := dX0_init_0) (C := hX) rfl rfl ?_
  refine g_objInit hX dX0_init_1 (by decide +kernel) (by decide +kernel) (by decide +kernel) (Nat.le_of_ble_eq_true rfl) (Nat.le_of_ble_eq_true rfl) ?_
  refine g_aload_n 0 (hd := dX0_init_4) (C := hX) rfl rfl ?_
  refine g_bipush (v := nI 24) hX dX0_init_5 (by decide) ?_
  refine g_newaI hX 1 dX0_init_7 (by decide +kernel) rfl (Nat.le_of_ble_eq_true rfl) (Nat.le_of_ble_eq_true rfl) (Nat.le_of_ble_eq_true rfl) (fun k => ?_)
  show GW X [(h, .inr (0, [.null, .null, .null, .int (nI 0), .int (nI 0), .int (nI 0), .int (nI 0), .int (nI 0), .int (nI 0)])), (k, .inl (cI, 24, .inl (fun j_ => nI (0))))] [(0, .ref h)] [.ref k, .ref h] 9 1 24
  refine g_putF (hd := dX0_init_9) hX hI 0 0 [(h, .inr (0, [.ref k, .null, .null, .int (nI 0), .int (nI 0), .int (nI 0), .int (nI 0), .int (nI 0), .int (nI 0)])), (k, .inl (cI, 24, .inl (fun j_ => nI (0))))] rfl rfl in_X0_init_0 tyX0_ok nmX0 (by decide) (by decide +kernel) rfl rfl rfl rfl (Nat.le_of_ble_eq_true rfl) rfl ?_
  refine g_aload_n 0 (hd := dX0_init_12) (C := hX) rfl rfl ?_
  refine g_bipush (v := nI 24) hX dX0_init_13 (by decide) ?_
  refine g_newaI hX 1 dX0_init_15 (by decide +kernel) rfl (Nat.le_of_ble_eq_true rfl) (Nat.le_of_ble_eq_true rfl) (Nat.le_of_ble_eq_true rfl) (fun f => ?_)
  show GW X [(h, .inr (0, [.ref k, .null, .null, .int (nI 0), .int (nI 0), .int (nI 0), .int (nI 0), .int (nI 0), .int (nI 0)])), (k, .inl (cI, 24, .inl (fun j_ => nI (0)))), (f, .inl (cI, 24, .inl (fun j_ => nI (0))))] [(0, .ref h)] [.ref f, .ref h] 17 2 48
  refine g_putF (hd := dX0_init_17) hX hI 0 1 [(h, .inr (0, [.ref k, .ref f, .null, .int (nI 0), .int (nI 0), .int (nI 0), .int (nI 0), .int (nI 0), .int (nI 0)])), (k, .inl (cI, 24, .inl (fun j_ => nI (0)))), (f, .inl (cI, 24, .inl (fun j_ => nI (0))))] rfl rfl in_X0_init_0 tyX0_ok nmX0 (by decide) (by decide +kernel) rfl rfl rfl rfl (Nat.le_of_ble_eq_true rfl) rfl ?_
  refine g_aload_n 0 (hd := dX0_init_20) (C := hX) rfl rfl ?_
  refine g_bipush (v := nI 24) hX dX0_init_21 (by decide) ?_
  refine g_newaI hX 1 dX0_init_23 (by decide +kernel) rfl (Nat.le_of_ble_eq_true rfl) (Nat.le_of_ble_eq_true rfl) (Nat.le_of_ble_eq_true rfl) (fun s => ?_)
  show GW X [(h, .inr (0, [.ref k, .ref f, .null, .int (nI 0), .int (nI 0), .int (nI 0), .int (nI 0), .int (nI 0), .int (nI 0)])), (k, .inl (cI, 24, .inl (fun j_ => nI (0)))), (f, .inl (cI, 24, .inl (fun j_ => nI (0)))), (s, .inl (cI, 24, .inl (fun j_ => nI (0))))] [(0, .ref h)] [.ref s, .ref h] 25 3 72
  refine g_putF (hd := dX0_init_25) hX hI 0 2 [(h, .inr (0, [.ref k, .ref f, .ref s, .int (nI 0), .int (nI 0), .int (nI 0), .int (nI 0), .int (nI 0), .int (nI 0)])), (k, .inl (cI, 24, .inl (fun j_ => nI (0)))), (f, .inl (cI, 24, .inl (fun j_ => nI (0)))), (s, .inl (cI, 24, .inl (fun j_ => nI (0))))] rfl rfl in_X0_init_0 tyX0_ok nmX0 (by decide) (by decide +kernel) rfl rfl rfl rfl (Nat.le_of_ble_eq_true rfl) rfl ?_
  exact hret (k, f, s) _ _ trivial dX0_init_28

theorem in_X1_init_1 : ∀ w ∈ wsX10, w ∈ wsX1_init := fun _ h => List.mem_cons_of_mem _ (List.mem_append_right _ h)
set_option maxRecDepth 100000 in
set_option maxHeartbeats 4000000 in
theorem c_X1_init (l : Launch) (D : va_G) (cC cI cJ cO : ClassId) (e : Nat) : CI (S := Nat × Nat) l D (tyL cC cI cJ cO) yX1_init wsX1_init ({ frames := 1, cells := 2, slots := 512, locals := 20 }) [.ref e] [(e, .inr (1, [.null, .null, .int (nI 0), .int (nI 0), .int (nI 0), .int (nI 0), .int (nI 0)]))] (fun _ => True) (fun u_ => [(e, .inr (1, [.ref u_.1, .ref u_.2, .int (nI 0), .int (nI 0), .int (nI 0), .int (nI 0), .int (nI 0)])), (u_.1, .inl (cI, 256, .inl (fun j_ => nI (0)))), (u_.2, .inl (cI, 256, .inl (fun j_ => nI (0))))]) 2 512 := by
  refine CI_in (cc := cX1_init) (maxL := 1) (by decide) rfl rfl (Nat.le_of_ble_eq_true rfl) ?_
  intro X hX hI hA hret
  show GW X [(e, .inr (1, [.null, .null, .int (nI 0), .int (nI 0), .int (nI 0), .int (nI 0), .int (nI 0)]))] [(0, .ref e)] [] 0 0 0
  refine g_aload_n 0 (hd := dX1_init_0) (C := hX) rfl rfl ?_
  refine g_objInit hX dX1_init_1 (by decide +kernel) (by decide +kernel) (by decide +kernel) (Nat.le_of_ble_eq_true rfl) (Nat.le_of_ble_eq_true rfl) ?_
  refine g_aload_n 0 (hd := dX1_init_4) (C := hX) rfl rfl ?_
  refine g_sipush (v := nI 256) hX dX1_init_5 (by decide) ?_
  refine g_newaI hX 1 dX1_init_8 (by decide +kernel) rfl (Nat.le_of_ble_eq_true rfl) (Nat.le_of_ble_eq_true rfl) (Nat.le_of_ble_eq_true rfl) (fun we => ?_)
  show GW X [(e, .inr (1, [.null, .null, .int (nI 0), .int (nI 0), .int (nI 0), .int (nI 0), .int (nI 0)])), (we, .inl (cI, 256, .inl (fun j_ => nI (0))))] [(0, .ref e)] [.ref we, .ref e] 10 1 256
  refine g_putF (hd := dX1_init_10) hX hI 0 0 [(e, .inr (1, [.ref we, .null, .int (nI 0), .int (nI 0), .int (nI 0), .int (nI 0), .int (nI 0)])), (we, .inl (cI, 256, .inl (fun j_ => nI (0))))] rfl rfl in_X1_init_1 tyX1_ok nmX1 (by decide) (by decide +kernel) rfl rfl rfl rfl (Nat.le_of_ble_eq_true rfl) rfl ?_
  refine g_aload_n 0 (hd := dX1_init_13) (C := hX) rfl rfl ?_
  refine g_sipush (v := nI 256) hX dX1_init_14 (by decide) ?_
  refine g_newaI hX 1 dX1_init_17 (by decide +kernel) rfl (Nat.le_of_ble_eq_true rfl) (Nat.le_of_ble_eq_true rfl) (Nat.le_of_ble_eq_true rfl) (fun re => ?_)
  show GW X [(e, .inr (1, [.ref we, .null, .int (nI 0), .int (nI 0), .int (nI 0), .int (nI 0), .int (nI 0)])), (we, .inl (cI, 256, .inl (fun j_ => nI (0)))), (re, .inl (cI, 256, .inl (fun j_ => nI (0))))] [(0, .ref e)] [.ref re, .ref e] 19 2 512
  refine g_putF (hd := dX1_init_19) hX hI 0 1 [(e, .inr (1, [.ref we, .ref re, .int (nI 0), .int (nI 0), .int (nI 0), .int (nI 0), .int (nI 0)])), (we, .inl (cI, 256, .inl (fun j_ => nI (0)))), (re, .inl (cI, 256, .inl (fun j_ => nI (0))))] rfl rfl in_X1_init_1 tyX1_ok nmX1 (by decide) (by decide +kernel) rfl rfl rfl rfl (Nat.le_of_ble_eq_true rfl) rfl ?_
  exact hret (we, re) _ _ trivial dX1_init_22

theorem in_X3_init_3 : ∀ w ∈ wsX30, w ∈ wsX3_init := fun _ h => List.mem_cons_of_mem _ (List.mem_append_right _ h)
set_option maxRecDepth 100000 in
set_option maxHeartbeats 4000000 in
theorem c_X3_init (l : Launch) (D : va_G) (cC cI cJ cO : ClassId) (ln : Nat) : CI (S := Nat) l D (tyL cC cI cJ cO) yX3_init wsX3_init ({ frames := 1, cells := 1, slots := 32, locals := 20 }) [.ref ln] [(ln, .inr (3, [.null]))] (fun _ => True) (fun u_ => [(ln, .inr (3, [.ref u_])), (u_, .inl (cJ, 32, .inr (.inl (fun _ => (0 : Int64)))))]) 1 32 := by
  refine CI_in (cc := cX3_init) (maxL := 1) (by decide) rfl rfl (Nat.le_of_ble_eq_true rfl) ?_
  intro X hX hI hA hret
  show GW X [(ln, .inr (3, [.null]))] [(0, .ref ln)] [] 0 0 0
  refine g_aload_n 0 (hd := dX3_init_0) (C := hX) rfl rfl ?_
  refine g_objInit hX dX3_init_1 (by decide +kernel) (by decide +kernel) (by decide +kernel) (Nat.le_of_ble_eq_true rfl) (Nat.le_of_ble_eq_true rfl) ?_
  refine g_aload_n 0 (hd := dX3_init_4) (C := hX) rfl rfl ?_
  refine g_bipush (v := nI 32) hX dX3_init_5 (by decide) ?_
  refine g_newaJ hX 2 dX3_init_7 (by decide +kernel) rfl (Nat.le_of_ble_eq_true rfl) (Nat.le_of_ble_eq_true rfl) (Nat.le_of_ble_eq_true rfl) (fun va => ?_)
  show GW X [(ln, .inr (3, [.null])), (va, .inl (cJ, 32, .inr (.inl (fun _ => (0 : Int64)))))] [(0, .ref ln)] [.ref va, .ref ln] 9 1 32
  refine g_putF (hd := dX3_init_9) hX hI 0 0 [(ln, .inr (3, [.ref va])), (va, .inl (cJ, 32, .inr (.inl (fun _ => (0 : Int64)))))] rfl rfl in_X3_init_3 tyX3_ok nmX3 (by decide) (by decide +kernel) rfl rfl rfl rfl (Nat.le_of_ble_eq_true rfl) rfl ?_
  exact hret va _ _ trivial dX3_init_12

theorem in_X4_init_4 : ∀ w ∈ wsX40, w ∈ wsX4_init := fun _ h => List.mem_cons_of_mem _ (List.mem_append_right _ h)
set_option maxRecDepth 100000 in
set_option maxHeartbeats 4000000 in
theorem c_X4_init (l : Launch) (D : va_G) (cC cI cJ cO : ClassId) (v : Nat) : CI (S := Nat × Nat × Nat × Nat) l D (tyL cC cI cJ cO) yX4_init wsX4_init ({ frames := 1, cells := 4, slots := 832, locals := 20 }) [.ref v] [(v, .inr (4, [.null, .null, .null, .null, .int (nI 0), .int (nI 0), .long (0 : Int64), .long (0 : Int64), .long (0 : Int64), .long (0 : Int64), .int (nI 0), .int (nI 0), .int (nI 0)]))] (fun _ => True) (fun u_ => [(v, .inr (4, [.ref u_.1, .ref u_.2.1, .ref u_.2.2.1, .ref u_.2.2.2, .int (nI 0), .int (nI 0), .long (0 : Int64), .long (0 : Int64), .long (0 : Int64), .long (0 : Int64), .int (nI 0), .int (nI 0), .int (nI 0)])), (u_.1, .inl (cI, 256, .inl (fun j_ => nI (0)))), (u_.2.1, .inl (cJ, 256, .inr (.inl (fun _ => (0 : Int64))))), (u_.2.2.1, .inl (cJ, 256, .inr (.inl (fun _ => (0 : Int64))))), (u_.2.2.2, .inl (cI, 64, .inl (fun j_ => nI (0))))]) 4 832 := by
  refine CI_in (cc := cX4_init) (maxL := 1) (by decide) rfl rfl (Nat.le_of_ble_eq_true rfl) ?_
  intro X hX hI hA hret
  show GW X [(v, .inr (4, [.null, .null, .null, .null, .int (nI 0), .int (nI 0), .long (0 : Int64), .long (0 : Int64), .long (0 : Int64), .long (0 : Int64), .int (nI 0), .int (nI 0), .int (nI 0)]))] [(0, .ref v)] [] 0 0 0
  refine g_aload_n 0 (hd := dX4_init_0) (C := hX) rfl rfl ?_
  refine g_objInit hX dX4_init_1 (by decide +kernel) (by decide +kernel) (by decide +kernel) (Nat.le_of_ble_eq_true rfl) (Nat.le_of_ble_eq_true rfl) ?_
  refine g_aload_n 0 (hd := dX4_init_4) (C := hX) rfl rfl ?_
  refine g_sipush (v := nI 256) hX dX4_init_5 (by decide) ?_
  refine g_newaI hX 1 dX4_init_8 (by decide +kernel) rfl (Nat.le_of_ble_eq_true rfl) (Nat.le_of_ble_eq_true rfl) (Nat.le_of_ble_eq_true rfl) (fun ou => ?_)
  show GW X [(v, .inr (4, [.null, .null, .null, .null, .int (nI 0), .int (nI 0), .long (0 : Int64), .long (0 : Int64), .long (0 : Int64), .long (0 : Int64), .int (nI 0), .int (nI 0), .int (nI 0)])), (ou, .inl (cI, 256, .inl (fun j_ => nI (0))))] [(0, .ref v)] [.ref ou, .ref v] 10 1 256
  refine g_putF (hd := dX4_init_10) hX hI 0 0 [(v, .inr (4, [.ref ou, .null, .null, .null, .int (nI 0), .int (nI 0), .long (0 : Int64), .long (0 : Int64), .long (0 : Int64), .long (0 : Int64), .int (nI 0), .int (nI 0), .int (nI 0)])), (ou, .inl (cI, 256, .inl (fun j_ => nI (0))))] rfl rfl in_X4_init_4 tyX4_ok nmX4 (by decide) (by decide +kernel) rfl rfl rfl rfl (Nat.le_of_ble_eq_true rfl) rfl ?_
  refine g_aload_n 0 (hd := dX4_init_13) (C := hX) rfl rfl ?_
  refine g_sipush (v := nI 256) hX dX4_init_14 (by decide) ?_
  refine g_newaJ hX 2 dX4_init_17 (by decide +kernel) rfl (Nat.le_of_ble_eq_true rfl) (Nat.le_of_ble_eq_true rfl) (Nat.le_of_ble_eq_true rfl) (fun ex => ?_)
  show GW X [(v, .inr (4, [.ref ou, .null, .null, .null, .int (nI 0), .int (nI 0), .long (0 : Int64), .long (0 : Int64), .long (0 : Int64), .long (0 : Int64), .int (nI 0), .int (nI 0), .int (nI 0)])), (ou, .inl (cI, 256, .inl (fun j_ => nI (0)))), (ex, .inl (cJ, 256, .inr (.inl (fun _ => (0 : Int64)))))] [(0, .ref v)] [.ref ex, .ref v] 19 2 512
  refine g_putF (hd := dX4_init_19) hX hI 0 1 [(v, .inr (4, [.ref ou, .ref ex, .null, .null, .int (nI 0), .int (nI 0), .long (0 : Int64), .long (0 : Int64), .long (0 : Int64), .long (0 : Int64), .int (nI 0), .int (nI 0), .int (nI 0)])), (ou, .inl (cI, 256, .inl (fun j_ => nI (0)))), (ex, .inl (cJ, 256, .inr (.inl (fun _ => (0 : Int64)))))] rfl rfl in_X4_init_4 tyX4_ok nmX4 (by decide) (by decide +kernel) rfl rfl rfl rfl (Nat.le_of_ble_eq_true rfl) rfl ?_
  refine g_aload_n 0 (hd := dX4_init_22) (C := hX) rfl rfl ?_
  refine g_sipush (v := nI 256) hX dX4_init_23 (by decide) ?_
  refine g_newaJ hX 2 dX4_init_26 (by decide +kernel) rfl (Nat.le_of_ble_eq_true rfl) (Nat.le_of_ble_eq_true rfl) (Nat.le_of_ble_eq_true rfl) (fun pa => ?_)
  show GW X [(v, .inr (4, [.ref ou, .ref ex, .null, .null, .int (nI 0), .int (nI 0), .long (0 : Int64), .long (0 : Int64), .long (0 : Int64), .long (0 : Int64), .int (nI 0), .int (nI 0), .int (nI 0)])), (ou, .inl (cI, 256, .inl (fun j_ => nI (0)))), (ex, .inl (cJ, 256, .inr (.inl (fun _ => (0 : Int64))))), (pa, .inl (cJ, 256, .inr (.inl (fun _ => (0 : Int64)))))] [(0, .ref v)] [.ref pa, .ref v] 28 3 768
  refine g_putF (hd := dX4_init_28) hX hI 0 2 [(v, .inr (4, [.ref ou, .ref ex, .ref pa, .null, .int (nI 0), .int (nI 0), .long (0 : Int64), .long (0 : Int64), .long (0 : Int64), .long (0 : Int64), .int (nI 0), .int (nI 0), .int (nI 0)])), (ou, .inl (cI, 256, .inl (fun j_ => nI (0)))), (ex, .inl (cJ, 256, .inr (.inl (fun _ => (0 : Int64))))), (pa, .inl (cJ, 256, .inr (.inl (fun _ => (0 : Int64)))))] rfl rfl in_X4_init_4 tyX4_ok nmX4 (by decide) (by decide +kernel) rfl rfl rfl rfl (Nat.le_of_ble_eq_true rfl) rfl ?_
  refine g_aload_n 0 (hd := dX4_init_31) (C := hX) rfl rfl ?_
  refine g_bipush (v := nI 64) hX dX4_init_32 (by decide) ?_
  refine g_newaI hX 1 dX4_init_34 (by decide +kernel) rfl (Nat.le_of_ble_eq_true rfl) (Nat.le_of_ble_eq_true rfl) (Nat.le_of_ble_eq_true rfl) (fun te => ?_)
  show GW X [(v, .inr (4, [.ref ou, .ref ex, .ref pa, .null, .int (nI 0), .int (nI 0), .long (0 : Int64), .long (0 : Int64), .long (0 : Int64), .long (0 : Int64), .int (nI 0), .int (nI 0), .int (nI 0)])), (ou, .inl (cI, 256, .inl (fun j_ => nI (0)))), (ex, .inl (cJ, 256, .inr (.inl (fun _ => (0 : Int64))))), (pa, .inl (cJ, 256, .inr (.inl (fun _ => (0 : Int64))))), (te, .inl (cI, 64, .inl (fun j_ => nI (0))))] [(0, .ref v)] [.ref te, .ref v] 36 4 832
  refine g_putF (hd := dX4_init_36) hX hI 0 3 [(v, .inr (4, [.ref ou, .ref ex, .ref pa, .ref te, .int (nI 0), .int (nI 0), .long (0 : Int64), .long (0 : Int64), .long (0 : Int64), .long (0 : Int64), .int (nI 0), .int (nI 0), .int (nI 0)])), (ou, .inl (cI, 256, .inl (fun j_ => nI (0)))), (ex, .inl (cJ, 256, .inr (.inl (fun _ => (0 : Int64))))), (pa, .inl (cJ, 256, .inr (.inl (fun _ => (0 : Int64))))), (te, .inl (cI, 64, .inl (fun j_ => nI (0))))] rfl rfl in_X4_init_4 tyX4_ok nmX4 (by decide) (by decide +kernel) rfl rfl rfl rfl (Nat.le_of_ble_eq_true rfl) rfl ?_
  exact hret (ou, ex, pa, te) _ _ trivial dX4_init_39

theorem in_X5_init_5 : ∀ w ∈ wsX50, w ∈ wsX5_init := fun _ h => List.mem_cons_of_mem _ (List.mem_append_right _ h)
set_option maxRecDepth 100000 in
set_option maxHeartbeats 4000000 in
theorem c_X5_init (l : Launch) (D : va_G) (cC cI cJ cO : ClassId) (a : Nat) : CI (S := Nat × Nat) l D (tyL cC cI cJ cO) yX5_init wsX5_init ({ frames := 1, cells := 2, slots := 203, locals := 20 }) [.ref a] [(a, .inr (5, [.null, .null, .int (nI 0), .int (nI 0)]))] (fun _ => True) (fun u_ => [(a, .inr (5, [.ref u_.1, .ref u_.2, .int (nI 0), .int (nI 0)])), (u_.1, .inl (cC, 200, .inl (fun j_ => nI (0)))), (u_.2, .inl (cI, 3, .inl (fun j_ => nI (0))))]) 2 203 := by
  refine CI_in (cc := cX5_init) (maxL := 1) (by decide) rfl rfl (Nat.le_of_ble_eq_true rfl) ?_
  intro X hX hI hA hret
  show GW X [(a, .inr (5, [.null, .null, .int (nI 0), .int (nI 0)]))] [(0, .ref a)] [] 0 0 0
  refine g_aload_n 0 (hd := dX5_init_0) (C := hX) rfl rfl ?_
  refine g_objInit hX dX5_init_1 (by decide +kernel) (by decide +kernel) (by decide +kernel) (Nat.le_of_ble_eq_true rfl) (Nat.le_of_ble_eq_true rfl) ?_
  refine g_aload_n 0 (hd := dX5_init_4) (C := hX) rfl rfl ?_
  refine g_sipush (v := nI 200) hX dX5_init_5 (by decide) ?_
  refine g_newaC hX 0 dX5_init_8 (by decide +kernel) rfl (Nat.le_of_ble_eq_true rfl) (Nat.le_of_ble_eq_true rfl) (Nat.le_of_ble_eq_true rfl) (fun la => ?_)
  show GW X [(a, .inr (5, [.null, .null, .int (nI 0), .int (nI 0)])), (la, .inl (cC, 200, .inl (fun j_ => nI (0))))] [(0, .ref a)] [.ref la, .ref a] 10 1 200
  refine g_putF (hd := dX5_init_10) hX hI 0 0 [(a, .inr (5, [.ref la, .null, .int (nI 0), .int (nI 0)])), (la, .inl (cC, 200, .inl (fun j_ => nI (0))))] rfl rfl in_X5_init_5 tyX5_ok nmX5 (by decide) (by decide +kernel) rfl rfl rfl rfl (Nat.le_of_ble_eq_true rfl) rfl ?_
  refine g_aload_n 0 (hd := dX5_init_13) (C := hX) rfl rfl ?_
  refine g_iconst (v := nI 3) hX dX5_init_14 (by decide) ?_
  refine g_newaI hX 1 dX5_init_15 (by decide +kernel) rfl (Nat.le_of_ble_eq_true rfl) (Nat.le_of_ble_eq_true rfl) (Nat.le_of_ble_eq_true rfl) (fun na => ?_)
  show GW X [(a, .inr (5, [.ref la, .null, .int (nI 0), .int (nI 0)])), (la, .inl (cC, 200, .inl (fun j_ => nI (0)))), (na, .inl (cI, 3, .inl (fun j_ => nI (0))))] [(0, .ref a)] [.ref na, .ref a] 17 2 203
  refine g_putF (hd := dX5_init_17) hX hI 0 1 [(a, .inr (5, [.ref la, .ref na, .int (nI 0), .int (nI 0)])), (la, .inl (cC, 200, .inl (fun j_ => nI (0)))), (na, .inl (cI, 3, .inl (fun j_ => nI (0))))] rfl rfl in_X5_init_5 tyX5_ok nmX5 (by decide) (by decide +kernel) rfl rfl rfl rfl (Nat.le_of_ble_eq_true rfl) rfl ?_
  exact hret (la, na) _ _ trivial dX5_init_20

theorem dfX0 : ∀ j, j < 9 → defaultValue (tyX0 j) = vp_V [.null, .null, .null, .int (nI 0), .int (nI 0), .int (nI 0), .int (nI 0), .int (nI 0), .int (nI 0)] j := by
  intro j hj
  rcases (show j = 0 ∨ j = 1 ∨ j = 2 ∨ j = 3 ∨ j = 4 ∨ j = 5 ∨ j = 6 ∨ j = 7 ∨ j = 8 by omega) with rfl | rfl | rfl | rfl | rfl | rfl | rfl | rfl | rfl <;> rfl

theorem dfX1 : ∀ j, j < 7 → defaultValue (tyX1 j) = vp_V [.null, .null, .int (nI 0), .int (nI 0), .int (nI 0), .int (nI 0), .int (nI 0)] j := by
  intro j hj
  rcases (show j = 0 ∨ j = 1 ∨ j = 2 ∨ j = 3 ∨ j = 4 ∨ j = 5 ∨ j = 6 by omega) with rfl | rfl | rfl | rfl | rfl | rfl | rfl <;> rfl

theorem dfX2 : ∀ j, j < 2 → defaultValue (tyX2 j) = vp_V [.null, .int (nI 0)] j := by
  intro j hj
  rcases (show j = 0 ∨ j = 1 by omega) with rfl | rfl <;> rfl

theorem dfX3 : ∀ j, j < 1 → defaultValue (tyX3 j) = vp_V [.null] j := by
  intro j hj
  rcases (show j = 0 by omega) with rfl <;> rfl

theorem dfX4 : ∀ j, j < 13 → defaultValue (tyX4 j) = vp_V [.null, .null, .null, .null, .int (nI 0), .int (nI 0), .long (0 : Int64), .long (0 : Int64), .long (0 : Int64), .long (0 : Int64), .int (nI 0), .int (nI 0), .int (nI 0)] j := by
  intro j hj
  rcases (show j = 0 ∨ j = 1 ∨ j = 2 ∨ j = 3 ∨ j = 4 ∨ j = 5 ∨ j = 6 ∨ j = 7 ∨ j = 8 ∨ j = 9 ∨ j = 10 ∨ j = 11 ∨ j = 12 by omega) with rfl | rfl | rfl | rfl | rfl | rfl | rfl | rfl | rfl | rfl | rfl | rfl | rfl <;> rfl

theorem dfX5 : ∀ j, j < 4 → defaultValue (tyX5 j) = vp_V [.null, .null, .int (nI 0), .int (nI 0)] j := by
  intro j hj
  rcases (show j = 0 ∨ j = 1 ∨ j = 2 ∨ j = 3 by omega) with rfl | rfl | rfl | rfl <;> rfl

theorem in_X7_init_7 : ∀ w ∈ wsX70, w ∈ wsX7_init := fun _ h => List.mem_cons_of_mem _ (List.mem_append_right _ h)
set_option maxRecDepth 100000 in
set_option maxHeartbeats 4000000 in
theorem c_X7_init (l : Launch) (D : va_G) (cC cI cJ cO : ClassId) (o : Nat) : CI (S := Nat × Nat × Nat × Nat × Nat × Nat × Nat) l D (tyL cC cI cJ cO) yX7_init wsX7_init ({ frames := 1, cells := 7, slots := 1368, locals := 24 }) [.ref o] [(o, .inr (7, [.int (nI 0), .null, .null, .null, .null, .int (nI 0), .int (nI 0), .int (nI 0), .null, .null, .null, .long (0 : Int64), .long (0 : Int64), .long (0 : Int64)]))] (fun _ => True) (fun u_ => [(o, .inr (7, [.int (nI 0), .ref u_.1, .ref u_.2.1, .ref u_.2.2.1, .ref u_.2.2.2.1, .int (nI 0), .int (nI 0), .int (nI 0), .ref u_.2.2.2.2.1, .ref u_.2.2.2.2.2.1, .ref u_.2.2.2.2.2.2, .long (0 : Int64), .long (0 : Int64), .long (0 : Int64)])), (u_.1, .inl (cI, 200, .inl (fun j_ => nI (0)))), (u_.2.1, .inl (cI, 78, .inl (fun j_ => nI ((nup (nup (nup (agC (agC (agC (agC (agC (agC (nup (fun j_ => 0) 0 4) 0 0 2) 0 1 3) 1 4 5) 0 0 3) 0 1 2) 1 7 8) 2 6) 3 9) 4 3) j_)))), (u_.2.2.1, .inl (cI, 78, .inl (fun j_ => nI (0)))), (u_.2.2.2.1, .inl (cI, 468, .inl (fun j_ => nI (0)))), (u_.2.2.2.2.1, .inl (cI, 32, .inl (fun j_ => nI (0)))), (u_.2.2.2.2.2.1, .inl (cJ, 256, .inr (.inl (fun _ => (0 : Int64))))), (u_.2.2.2.2.2.2, .inl (cJ, 256, .inr (.inl (fun _ => (0 : Int64)))))]) 7 1368 := by
  refine CI_in (cc := cX7_init) (maxL := 1) (by decide) rfl rfl (Nat.le_of_ble_eq_true rfl) ?_
  intro X hX hI hA hret
  show GW X [(o, .inr (7, [.int (nI 0), .null, .null, .null, .null, .int (nI 0), .int (nI 0), .int (nI 0), .null, .null, .null, .long (0 : Int64), .long (0 : Int64), .long (0 : Int64)]))] [(0, .ref o)] [] 0 0 0
  refine g_aload_n 0 (hd := dX7_init_0) (C := hX) rfl rfl ?_
  refine g_objInit hX dX7_init_1 (by decide +kernel) (by decide +kernel) (by decide +kernel) (Nat.le_of_ble_eq_true rfl) (Nat.le_of_ble_eq_true rfl) ?_
  refine g_aload_n 0 (hd := dX7_init_4) (C := hX) rfl rfl ?_
  refine g_sipush (v := nI 200) hX dX7_init_5 (by decide) ?_
  refine g_newaI hX 1 dX7_init_8 (by decide +kernel) rfl (Nat.le_of_ble_eq_true rfl) (Nat.le_of_ble_eq_true rfl) (Nat.le_of_ble_eq_true rfl) (fun ot => ?_)
  show GW X [(o, .inr (7, [.int (nI 0), .null, .null, .null, .null, .int (nI 0), .int (nI 0), .int (nI 0), .null, .null, .null, .long (0 : Int64), .long (0 : Int64), .long (0 : Int64)])), (ot, .inl (cI, 200, .inl (fun j_ => nI (0))))] [(0, .ref o)] [.ref ot, .ref o] 10 1 200
  refine g_putF (hd := dX7_init_10) hX hI 0 1 [(o, .inr (7, [.int (nI 0), .ref ot, .null, .null, .null, .int (nI 0), .int (nI 0), .int (nI 0), .null, .null, .null, .long (0 : Int64), .long (0 : Int64), .long (0 : Int64)])), (ot, .inl (cI, 200, .inl (fun j_ => nI (0))))] rfl rfl in_X7_init_7 tyX7_ok nmX7 (by decide) (by decide +kernel) rfl rfl rfl rfl (Nat.le_of_ble_eq_true rfl) rfl ?_
  refine g_aload_n 0 (hd := dX7_init_13) (C := hX) rfl rfl ?_
  refine g_bipush (v := nI 78) hX dX7_init_14 (by decide) ?_
  refine g_newaI hX 1 dX7_init_16 (by decide +kernel) rfl (Nat.le_of_ble_eq_true rfl) (Nat.le_of_ble_eq_true rfl) (Nat.le_of_ble_eq_true rfl) (fun on => ?_)
  show GW X [(o, .inr (7, [.int (nI 0), .ref ot, .null, .null, .null, .int (nI 0), .int (nI 0), .int (nI 0), .null, .null, .null, .long (0 : Int64), .long (0 : Int64), .long (0 : Int64)])), (ot, .inl (cI, 200, .inl (fun j_ => nI (0)))), (on, .inl (cI, 78, .inl (fun j_ => nI (0))))] [(0, .ref o)] [.ref on, .ref o] 18 2 278
  refine g_putF (hd := dX7_init_18) hX hI 0 2 [(o, .inr (7, [.int (nI 0), .ref ot, .ref on, .null, .null, .int (nI 0), .int (nI 0), .int (nI 0), .null, .null, .null, .long (0 : Int64), .long (0 : Int64), .long (0 : Int64)])), (ot, .inl (cI, 200, .inl (fun j_ => nI (0)))), (on, .inl (cI, 78, .inl (fun j_ => nI (0))))] rfl rfl in_X7_init_7 tyX7_ok nmX7 (by decide) (by decide +kernel) rfl rfl rfl rfl (Nat.le_of_ble_eq_true rfl) rfl ?_
  refine g_aload_n 0 (hd := dX7_init_21) (C := hX) rfl rfl ?_
  refine g_bipush (v := nI 78) hX dX7_init_22 (by decide) ?_
  refine g_newaI hX 1 dX7_init_24 (by decide +kernel) rfl (Nat.le_of_ble_eq_true rfl) (Nat.le_of_ble_eq_true rfl) (Nat.le_of_ble_eq_true rfl) (fun od => ?_)
  show GW X [(o, .inr (7, [.int (nI 0), .ref ot, .ref on, .null, .null, .int (nI 0), .int (nI 0), .int (nI 0), .null, .null, .null, .long (0 : Int64), .long (0 : Int64), .long (0 : Int64)])), (ot, .inl (cI, 200, .inl (fun j_ => nI (0)))), (on, .inl (cI, 78, .inl (fun j_ => nI (0)))), (od, .inl (cI, 78, .inl (fun j_ => nI (0))))] [(0, .ref o)] [.ref od, .ref o] 26 3 356
  refine g_putF (hd := dX7_init_26) hX hI 0 3 [(o, .inr (7, [.int (nI 0), .ref ot, .ref on, .ref od, .null, .int (nI 0), .int (nI 0), .int (nI 0), .null, .null, .null, .long (0 : Int64), .long (0 : Int64), .long (0 : Int64)])), (ot, .inl (cI, 200, .inl (fun j_ => nI (0)))), (on, .inl (cI, 78, .inl (fun j_ => nI (0)))), (od, .inl (cI, 78, .inl (fun j_ => nI (0))))] rfl rfl in_X7_init_7 tyX7_ok nmX7 (by decide) (by decide +kernel) rfl rfl rfl rfl (Nat.le_of_ble_eq_true rfl) rfl ?_
  refine g_aload_n 0 (hd := dX7_init_29) (C := hX) rfl rfl ?_
  refine g_sipush (v := nI 468) hX dX7_init_30 (by decide) ?_
  refine g_newaI hX 1 dX7_init_33 (by decide +kernel) rfl (Nat.le_of_ble_eq_true rfl) (Nat.le_of_ble_eq_true rfl) (Nat.le_of_ble_eq_true rfl) (fun ow => ?_)
  show GW X [(o, .inr (7, [.int (nI 0), .ref ot, .ref on, .ref od, .null, .int (nI 0), .int (nI 0), .int (nI 0), .null, .null, .null, .long (0 : Int64), .long (0 : Int64), .long (0 : Int64)])), (ot, .inl (cI, 200, .inl (fun j_ => nI (0)))), (on, .inl (cI, 78, .inl (fun j_ => nI (0)))), (od, .inl (cI, 78, .inl (fun j_ => nI (0)))), (ow, .inl (cI, 468, .inl (fun j_ => nI (0))))] [(0, .ref o)] [.ref ow, .ref o] 35 4 824
  refine g_putF (hd := dX7_init_35) hX hI 0 4 [(o, .inr (7, [.int (nI 0), .ref ot, .ref on, .ref od, .ref ow, .int (nI 0), .int (nI 0), .int (nI 0), .null, .null, .null, .long (0 : Int64), .long (0 : Int64), .long (0 : Int64)])), (ot, .inl (cI, 200, .inl (fun j_ => nI (0)))), (on, .inl (cI, 78, .inl (fun j_ => nI (0)))), (od, .inl (cI, 78, .inl (fun j_ => nI (0)))), (ow, .inl (cI, 468, .inl (fun j_ => nI (0))))] rfl rfl in_X7_init_7 tyX7_ok nmX7 (by decide) (by decide +kernel) rfl rfl rfl rfl (Nat.le_of_ble_eq_true rfl) rfl ?_
  refine g_aload_n 0 (hd := dX7_init_38) (C := hX) rfl rfl ?_
  refine g_bipush (v := nI 32) hX dX7_init_39 (by decide) ?_
  refine g_newaI hX 1 dX7_init_41 (by decide +kernel) rfl (Nat.le_of_ble_eq_true rfl) (Nat.le_of_ble_eq_true rfl) (Nat.le_of_ble_eq_true rfl) (fun oi => ?_)
  show GW X [(o, .inr (7, [.int (nI 0), .ref ot, .ref on, .ref od, .ref ow, .int (nI 0), .int (nI 0), .int (nI 0), .null, .null, .null, .long (0 : Int64), .long (0 : Int64), .long (0 : Int64)])), (ot, .inl (cI, 200, .inl (fun j_ => nI (0)))), (on, .inl (cI, 78, .inl (fun j_ => nI (0)))), (od, .inl (cI, 78, .inl (fun j_ => nI (0)))), (ow, .inl (cI, 468, .inl (fun j_ => nI (0)))), (oi, .inl (cI, 32, .inl (fun j_ => nI (0))))] [(0, .ref o)] [.ref oi, .ref o] 43 5 856
  refine g_putF (hd := dX7_init_43) hX hI 0 8 [(o, .inr (7, [.int (nI 0), .ref ot, .ref on, .ref od, .ref ow, .int (nI 0), .int (nI 0), .int (nI 0), .ref oi, .null, .null, .long (0 : Int64), .long (0 : Int64), .long (0 : Int64)])), (ot, .inl (cI, 200, .inl (fun j_ => nI (0)))), (on, .inl (cI, 78, .inl (fun j_ => nI (0)))), (od, .inl (cI, 78, .inl (fun j_ => nI (0)))), (ow, .inl (cI, 468, .inl (fun j_ => nI (0)))), (oi, .inl (cI, 32, .inl (fun j_ => nI (0))))] rfl rfl in_X7_init_7 tyX7_ok nmX7 (by decide) (by decide +kernel) rfl rfl rfl rfl (Nat.le_of_ble_eq_true rfl) rfl ?_
  refine g_aload_n 0 (hd := dX7_init_46) (C := hX) rfl rfl ?_
  refine g_sipush (v := nI 256) hX dX7_init_47 (by decide) ?_
  refine g_newaJ hX 2 dX7_init_50 (by decide +kernel) rfl (Nat.le_of_ble_eq_true rfl) (Nat.le_of_ble_eq_true rfl) (Nat.le_of_ble_eq_true rfl) (fun oe => ?_)
  show GW X [(o, .inr (7, [.int (nI 0), .ref ot, .ref on, .ref od, .ref ow, .int (nI 0), .int (nI 0), .int (nI 0), .ref oi, .null, .null, .long (0 : Int64), .long (0 : Int64), .long (0 : Int64)])), (ot, .inl (cI, 200, .inl (fun j_ => nI (0)))), (on, .inl (cI, 78, .inl (fun j_ => nI (0)))), (od, .inl (cI, 78, .inl (fun j_ => nI (0)))), (ow, .inl (cI, 468, .inl (fun j_ => nI (0)))), (oi, .inl (cI, 32, .inl (fun j_ => nI (0)))), (oe, .inl (cJ, 256, .inr (.inl (fun _ => (0 : Int64)))))] [(0, .ref o)] [.ref oe, .ref o] 52 6 1112
  refine g_putF (hd := dX7_init_52) hX hI 0 9 [(o, .inr (7, [.int (nI 0), .ref ot, .ref on, .ref od, .ref ow, .int (nI 0), .int (nI 0), .int (nI 0), .ref oi, .ref oe, .null, .long (0 : Int64), .long (0 : Int64), .long (0 : Int64)])), (ot, .inl (cI, 200, .inl (fun j_ => nI (0)))), (on, .inl (cI, 78, .inl (fun j_ => nI (0)))), (od, .inl (cI, 78, .inl (fun j_ => nI (0)))), (ow, .inl (cI, 468, .inl (fun j_ => nI (0)))), (oi, .inl (cI, 32, .inl (fun j_ => nI (0)))), (oe, .inl (cJ, 256, .inr (.inl (fun _ => (0 : Int64)))))] rfl rfl in_X7_init_7 tyX7_ok nmX7 (by decide) (by decide +kernel) rfl rfl rfl rfl (Nat.le_of_ble_eq_true rfl) rfl ?_
  refine g_aload_n 0 (hd := dX7_init_55) (C := hX) rfl rfl ?_
  refine g_sipush (v := nI 256) hX dX7_init_56 (by decide) ?_
  refine g_newaJ hX 2 dX7_init_59 (by decide +kernel) rfl (Nat.le_of_ble_eq_true rfl) (Nat.le_of_ble_eq_true rfl) (Nat.le_of_ble_eq_true rfl) (fun op => ?_)
  show GW X [(o, .inr (7, [.int (nI 0), .ref ot, .ref on, .ref od, .ref ow, .int (nI 0), .int (nI 0), .int (nI 0), .ref oi, .ref oe, .null, .long (0 : Int64), .long (0 : Int64), .long (0 : Int64)])), (ot, .inl (cI, 200, .inl (fun j_ => nI (0)))), (on, .inl (cI, 78, .inl (fun j_ => nI (0)))), (od, .inl (cI, 78, .inl (fun j_ => nI (0)))), (ow, .inl (cI, 468, .inl (fun j_ => nI (0)))), (oi, .inl (cI, 32, .inl (fun j_ => nI (0)))), (oe, .inl (cJ, 256, .inr (.inl (fun _ => (0 : Int64))))), (op, .inl (cJ, 256, .inr (.inl (fun _ => (0 : Int64)))))] [(0, .ref o)] [.ref op, .ref o] 61 7 1368
  refine g_putF (hd := dX7_init_61) hX hI 0 10 [(o, .inr (7, [.int (nI 0), .ref ot, .ref on, .ref od, .ref ow, .int (nI 0), .int (nI 0), .int (nI 0), .ref oi, .ref oe, .ref op, .long (0 : Int64), .long (0 : Int64), .long (0 : Int64)])), (ot, .inl (cI, 200, .inl (fun j_ => nI (0)))), (on, .inl (cI, 78, .inl (fun j_ => nI (0)))), (od, .inl (cI, 78, .inl (fun j_ => nI (0)))), (ow, .inl (cI, 468, .inl (fun j_ => nI (0)))), (oi, .inl (cI, 32, .inl (fun j_ => nI (0)))), (oe, .inl (cJ, 256, .inr (.inl (fun _ => (0 : Int64))))), (op, .inl (cJ, 256, .inr (.inl (fun _ => (0 : Int64)))))] rfl rfl in_X7_init_7 tyX7_ok nmX7 (by decide) (by decide +kernel) rfl rfl rfl rfl (Nat.le_of_ble_eq_true rfl) rfl ?_
  refine g_aload_n 0 (hd := dX7_init_64) (C := hX) rfl rfl ?_
  refine g_get (hd := dX7_init_65) (C := hX) 0 2 rfl rfl in_X7_init_7 (by decide) (by decide +kernel) rfl ?_
  refine g_iconst (v := nI 0) hX dX7_init_68 (by decide) ?_
  refine g_iconst (v := nI 4) hX dX7_init_69 (by decide) ?_
  refine g_iast (hd := dX7_init_70) (C := hX) 2 1 [(o, .inr (7, [.int (nI 0), .ref ot, .ref on, .ref od, .ref ow, .int (nI 0), .int (nI 0), .int (nI 0), .ref oi, .ref oe, .ref op, .long (0 : Int64), .long (0 : Int64), .long (0 : Int64)])), (ot, .inl (cI, 200, .inl (fun j_ => nI (0)))), (on, .inl (cI, 78, .inl (fun j_ => nI ((nup (fun j_ => 0) 0 4) j_)))), (od, .inl (cI, 78, .inl (fun j_ => nI (0)))), (ow, .inl (cI, 468, .inl (fun j_ => nI (0)))), (oi, .inl (cI, 32, .inl (fun j_ => nI (0)))), (oe, .inl (cJ, 256, .inr (.inl (fun _ => (0 : Int64))))), (op, .inl (cJ, 256, .inr (.inl (fun _ => (0 : Int64)))))] rfl rfl (by omega) (by decide) (by rw [nup_I]; rfl) ?_
  refine g_aload_n 0 (hd := dX7_init_71) (C := hX) rfl rfl ?_
  refine g_get (hd := dX7_init_72) (C := hX) 0 2 rfl rfl in_X7_init_7 (by decide) (by decide +kernel) rfl ?_
  refine g_iconst (v := nI 0) hX dX7_init_75 (by decide) ?_
  refine g_iconst (v := nI 0) hX dX7_init_76 (by decide) ?_
  refine g_iconst (v := nI 2) hX dX7_init_77 (by decide) ?_
  refine g_callS (rest := []) hX (c_X7_adds l D cC cI cJ cO on (nup (fun j_ => 0) 0 4) 0 0 2 (by decide +kernel)) ok_X7_adds (fun _ => rfl) (hd := dX7_init_78) gX7_init_X7_adds ⟨by decide, by decide⟩ rfl (Nat.le_of_ble_eq_true rfl) ⟨Nat.le_of_ble_eq_true rfl, Nat.le_of_ble_eq_true rfl⟩ [2] (by decide) rfl rfl ?_
  intro _u78 _p78
  show GW X [(o, .inr (7, [.int (nI 0), .ref ot, .ref on, .ref od, .ref ow, .int (nI 0), .int (nI 0), .int (nI 0), .ref oi, .ref oe, .ref op, .long (0 : Int64), .long (0 : Int64), .long (0 : Int64)])), (ot, .inl (cI, 200, .inl (fun j_ => nI (0)))), (on, .inl (cI, 78, .inl (fun j_ => nI ((agC (nup (fun j_ => 0) 0 4) 0 0 2) j_)))), (od, .inl (cI, 78, .inl (fun j_ => nI (0)))), (ow, .inl (cI, 468, .inl (fun j_ => nI (0)))), (oi, .inl (cI, 32, .inl (fun j_ => nI (0)))), (oe, .inl (cJ, 256, .inr (.inl (fun _ => (0 : Int64))))), (op, .inl (cJ, 256, .inr (.inl (fun _ => (0 : Int64)))))] [(0, .ref o)] [] 81 7 1368
  refine g_aload_n 0 (hd := dX7_init_81) (C := hX) rfl rfl ?_
  refine g_get (hd := dX7_init_82) (C := hX) 0 2 rfl rfl in_X7_init_7 (by decide) (by decide +kernel) rfl ?_
  refine g_iconst (v := nI 0) hX dX7_init_85 (by decide) ?_
  refine g_iconst (v := nI 1) hX dX7_init_86 (by decide) ?_
  refine g_iconst (v := nI 3) hX dX7_init_87 (by decide) ?_
  refine g_callS (rest := []) hX (c_X7_adds l D cC cI cJ cO on (agC (nup (fun j_ => 0) 0 4) 0 0 2) 0 1 3 (by decide +kernel)) ok_X7_adds (fun _ => rfl) (hd := dX7_init_88) gX7_init_X7_adds ⟨by decide, by decide⟩ rfl (Nat.le_of_ble_eq_true rfl) ⟨Nat.le_of_ble_eq_true rfl, Nat.le_of_ble_eq_true rfl⟩ [2] (by decide) rfl rfl ?_
  intro _u88 _p88
  show GW X [(o, .inr (7, [.int (nI 0), .ref ot, .ref on, .ref od, .ref ow, .int (nI 0), .int (nI 0), .int (nI 0), .ref oi, .ref oe, .ref op, .long (0 : Int64), .long (0 : Int64), .long (0 : Int64)])), (ot, .inl (cI, 200, .inl (fun j_ => nI (0)))), (on, .inl (cI, 78, .inl (fun j_ => nI ((agC (agC (nup (fun j_ => 0) 0 4) 0 0 2) 0 1 3) j_)))), (od, .inl (cI, 78, .inl (fun j_ => nI (0)))), (ow, .inl (cI, 468, .inl (fun j_ => nI (0)))), (oi, .inl (cI, 32, .inl (fun j_ => nI (0)))), (oe, .inl (cJ, 256, .inr (.inl (fun _ => (0 : Int64))))), (op, .inl (cJ, 256, .inr (.inl (fun _ => (0 : Int64)))))] [(0, .ref o)] [] 91 7 1368
  refine g_aload_n 0 (hd := dX7_init_91) (C := hX) rfl rfl ?_
  refine g_get (hd := dX7_init_92) (C := hX) 0 2 rfl rfl in_X7_init_7 (by decide) (by decide +kernel) rfl ?_
  refine g_iconst (v := nI 1) hX dX7_init_95 (by decide) ?_
  refine g_iconst (v := nI 4) hX dX7_init_96 (by decide) ?_
  refine g_iconst (v := nI 5) hX dX7_init_97 (by decide) ?_
  refine g_callS (rest := []) hX (c_X7_adds l D cC cI cJ cO on (agC (agC (nup (fun j_ => 0) 0 4) 0 0 2) 0 1 3) 1 4 5 (by decide +kernel)) ok_X7_adds (fun _ => rfl) (hd := dX7_init_98) gX7_init_X7_adds ⟨by decide, by decide⟩ rfl (Nat.le_of_ble_eq_true rfl) ⟨Nat.le_of_ble_eq_true rfl, Nat.le_of_ble_eq_true rfl⟩ [2] (by decide) rfl rfl ?_
  intro _u98 _p98
  show GW X [(o, .inr (7, [.int (nI 0), .ref ot, .ref on, .ref od, .ref ow, .int (nI 0), .int (nI 0), .int (nI 0), .ref oi, .ref oe, .ref op, .long (0 : Int64), .long (0 : Int64), .long (0 : Int64)])), (ot, .inl (cI, 200, .inl (fun j_ => nI (0)))), (on, .inl (cI, 78, .inl (fun j_ => nI ((agC (agC (agC (nup (fun j_ => 0) 0 4) 0 0 2) 0 1 3) 1 4 5) j_)))), (od, .inl (cI, 78, .inl (fun j_ => nI (0)))), (ow, .inl (cI, 468, .inl (fun j_ => nI (0)))), (oi, .inl (cI, 32, .inl (fun j_ => nI (0)))), (oe, .inl (cJ, 256, .inr (.inl (fun _ => (0 : Int64))))), (op, .inl (cJ, 256, .inr (.inl (fun _ => (0 : Int64)))))] [(0, .ref o)] [] 101 7 1368
  refine g_aload_n 0 (hd := dX7_init_101) (C := hX) rfl rfl ?_
  refine g_get (hd := dX7_init_102) (C := hX) 0 2 rfl rfl in_X7_init_7 (by decide) (by decide +kernel) rfl ?_
  refine g_iconst (v := nI 0) hX dX7_init_105 (by decide) ?_
  refine g_iconst (v := nI 0) hX dX7_init_106 (by decide) ?_
  refine g_iconst (v := nI 3) hX dX7_init_107 (by decide) ?_
  refine g_callS (rest := []) hX (c_X7_adds l D cC cI cJ cO on (agC (agC (agC (nup (fun j_ => 0) 0 4) 0 0 2) 0 1 3) 1 4 5) 0 0 3 (by decide +kernel)) ok_X7_adds (fun _ => rfl) (hd := dX7_init_108) gX7_init_X7_adds ⟨by decide, by decide⟩ rfl (Nat.le_of_ble_eq_true rfl) ⟨Nat.le_of_ble_eq_true rfl, Nat.le_of_ble_eq_true rfl⟩ [2] (by decide) rfl rfl ?_
  intro _u108 _p108
  show GW X [(o, .inr (7, [.int (nI 0), .ref ot, .ref on, .ref od, .ref ow, .int (nI 0), .int (nI 0), .int (nI 0), .ref oi, .ref oe, .ref op, .long (0 : Int64), .long (0 : Int64), .long (0 : Int64)])), (ot, .inl (cI, 200, .inl (fun j_ => nI (0)))), (on, .inl (cI, 78, .inl (fun j_ => nI ((agC (agC (agC (agC (nup (fun j_ => 0) 0 4) 0 0 2) 0 1 3) 1 4 5) 0 0 3) j_)))), (od, .inl (cI, 78, .inl (fun j_ => nI (0)))), (ow, .inl (cI, 468, .inl (fun j_ => nI (0)))), (oi, .inl (cI, 32, .inl (fun j_ => nI (0)))), (oe, .inl (cJ, 256, .inr (.inl (fun _ => (0 : Int64))))), (op, .inl (cJ, 256, .inr (.inl (fun _ => (0 : Int64)))))] [(0, .ref o)] [] 111 7 1368
  refine g_aload_n 0 (hd := dX7_init_111) (C := hX) rfl rfl ?_
  refine g_get (hd := dX7_init_112) (C := hX) 0 2 rfl rfl in_X7_init_7 (by decide) (by decide +kernel) rfl ?_
  refine g_iconst (v := nI 0) hX dX7_init_115 (by decide) ?_
  refine g_iconst (v := nI 1) hX dX7_init_116 (by decide) ?_
  refine g_iconst (v := nI 2) hX dX7_init_117 (by decide) ?_
  refine g_callS (rest := []) hX (c_X7_adds l D cC cI cJ cO on (agC (agC (agC (agC (nup (fun j_ => 0) 0 4) 0 0 2) 0 1 3) 1 4 5) 0 0 3) 0 1 2 (by decide +kernel)) ok_X7_adds (fun _ => rfl) (hd := dX7_init_118) gX7_init_X7_adds ⟨by decide, by decide⟩ rfl (Nat.le_of_ble_eq_true rfl) ⟨Nat.le_of_ble_eq_true rfl, Nat.le_of_ble_eq_true rfl⟩ [2] (by decide) rfl rfl ?_
  intro _u118 _p118
  show GW X [(o, .inr (7, [.int (nI 0), .ref ot, .ref on, .ref od, .ref ow, .int (nI 0), .int (nI 0), .int (nI 0), .ref oi, .ref oe, .ref op, .long (0 : Int64), .long (0 : Int64), .long (0 : Int64)])), (ot, .inl (cI, 200, .inl (fun j_ => nI (0)))), (on, .inl (cI, 78, .inl (fun j_ => nI ((agC (agC (agC (agC (agC (nup (fun j_ => 0) 0 4) 0 0 2) 0 1 3) 1 4 5) 0 0 3) 0 1 2) j_)))), (od, .inl (cI, 78, .inl (fun j_ => nI (0)))), (ow, .inl (cI, 468, .inl (fun j_ => nI (0)))), (oi, .inl (cI, 32, .inl (fun j_ => nI (0)))), (oe, .inl (cJ, 256, .inr (.inl (fun _ => (0 : Int64))))), (op, .inl (cJ, 256, .inr (.inl (fun _ => (0 : Int64)))))] [(0, .ref o)] [] 121 7 1368
  refine g_aload_n 0 (hd := dX7_init_121) (C := hX) rfl rfl ?_
  refine g_get (hd := dX7_init_122) (C := hX) 0 2 rfl rfl in_X7_init_7 (by decide) (by decide +kernel) rfl ?_
  refine g_iconst (v := nI 1) hX dX7_init_125 (by decide) ?_
  refine g_bipush (v := nI 7) hX dX7_init_126 (by decide) ?_
  refine g_bipush (v := nI 8) hX dX7_init_128 (by decide) ?_
  refine g_callS (rest := []) hX (c_X7_adds l D cC cI cJ cO on (agC (agC (agC (agC (agC (nup (fun j_ => 0) 0 4) 0 0 2) 0 1 3) 1 4 5) 0 0 3) 0 1 2) 1 7 8 (by decide +kernel)) ok_X7_adds (fun _ => rfl) (hd := dX7_init_130) gX7_init_X7_adds ⟨by decide, by decide⟩ rfl (Nat.le_of_ble_eq_true rfl) ⟨Nat.le_of_ble_eq_true rfl, Nat.le_of_ble_eq_true rfl⟩ [2] (by decide) rfl rfl ?_
  intro _u130 _p130
  show GW X [(o, .inr (7, [.int (nI 0), .ref ot, .ref on, .ref od, .ref ow, .int (nI 0), .int (nI 0), .int (nI 0), .ref oi, .ref oe, .ref op, .long (0 : Int64), .long (0 : Int64), .long (0 : Int64)])), (ot, .inl (cI, 200, .inl (fun j_ => nI (0)))), (on, .inl (cI, 78, .inl (fun j_ => nI ((agC (agC (agC (agC (agC (agC (nup (fun j_ => 0) 0 4) 0 0 2) 0 1 3) 1 4 5) 0 0 3) 0 1 2) 1 7 8) j_)))), (od, .inl (cI, 78, .inl (fun j_ => nI (0)))), (ow, .inl (cI, 468, .inl (fun j_ => nI (0)))), (oi, .inl (cI, 32, .inl (fun j_ => nI (0)))), (oe, .inl (cJ, 256, .inr (.inl (fun _ => (0 : Int64))))), (op, .inl (cJ, 256, .inr (.inl (fun _ => (0 : Int64)))))] [(0, .ref o)] [] 133 7 1368
  refine g_aload_n 0 (hd := dX7_init_133) (C := hX) rfl rfl ?_
  refine g_get (hd := dX7_init_134) (C := hX) 0 2 rfl rfl in_X7_init_7 (by decide) (by decide +kernel) rfl ?_
  refine g_iconst (v := nI 2) hX dX7_init_137 (by decide) ?_
  refine g_bipush (v := nI 6) hX dX7_init_138 (by decide) ?_
  refine g_iast (hd := dX7_init_140) (C := hX) 2 1 [(o, .inr (7, [.int (nI 0), .ref ot, .ref on, .ref od, .ref ow, .int (nI 0), .int (nI 0), .int (nI 0), .ref oi, .ref oe, .ref op, .long (0 : Int64), .long (0 : Int64), .long (0 : Int64)])), (ot, .inl (cI, 200, .inl (fun j_ => nI (0)))), (on, .inl (cI, 78, .inl (fun j_ => nI ((nup (agC (agC (agC (agC (agC (agC (nup (fun j_ => 0) 0 4) 0 0 2) 0 1 3) 1 4 5) 0 0 3) 0 1 2) 1 7 8) 2 6) j_)))), (od, .inl (cI, 78, .inl (fun j_ => nI (0)))), (ow, .inl (cI, 468, .inl (fun j_ => nI (0)))), (oi, .inl (cI, 32, .inl (fun j_ => nI (0)))), (oe, .inl (cJ, 256, .inr (.inl (fun _ => (0 : Int64))))), (op, .inl (cJ, 256, .inr (.inl (fun _ => (0 : Int64)))))] rfl rfl (by omega) (by decide) (by rw [nup_I]; rfl) ?_
  refine g_aload_n 0 (hd := dX7_init_141) (C := hX) rfl rfl ?_
  refine g_get (hd := dX7_init_142) (C := hX) 0 2 rfl rfl in_X7_init_7 (by decide) (by decide +kernel) rfl ?_
  refine g_iconst (v := nI 3) hX dX7_init_145 (by decide) ?_
  refine g_bipush (v := nI 9) hX dX7_init_146 (by decide) ?_
  refine g_iast (hd := dX7_init_148) (C := hX) 2 1 [(o, .inr (7, [.int (nI 0), .ref ot, .ref on, .ref od, .ref ow, .int (nI 0), .int (nI 0), .int (nI 0), .ref oi, .ref oe, .ref op, .long (0 : Int64), .long (0 : Int64), .long (0 : Int64)])), (ot, .inl (cI, 200, .inl (fun j_ => nI (0)))), (on, .inl (cI, 78, .inl (fun j_ => nI ((nup (nup (agC (agC (agC (agC (agC (agC (nup (fun j_ => 0) 0 4) 0 0 2) 0 1 3) 1 4 5) 0 0 3) 0 1 2) 1 7 8) 2 6) 3 9) j_)))), (od, .inl (cI, 78, .inl (fun j_ => nI (0)))), (ow, .inl (cI, 468, .inl (fun j_ => nI (0)))), (oi, .inl (cI, 32, .inl (fun j_ => nI (0)))), (oe, .inl (cJ, 256, .inr (.inl (fun _ => (0 : Int64))))), (op, .inl (cJ, 256, .inr (.inl (fun _ => (0 : Int64)))))] rfl rfl (by omega) (by decide) (by rw [nup_I]; rfl) ?_
  refine g_aload_n 0 (hd := dX7_init_149) (C := hX) rfl rfl ?_
  refine g_get (hd := dX7_init_150) (C := hX) 0 2 rfl rfl in_X7_init_7 (by decide) (by decide +kernel) rfl ?_
  refine g_iconst (v := nI 4) hX dX7_init_153 (by decide) ?_
  refine g_iconst (v := nI 3) hX dX7_init_154 (by decide) ?_
  refine g_iast (hd := dX7_init_155) (C := hX) 2 1 [(o, .inr (7, [.int (nI 0), .ref ot, .ref on, .ref od, .ref ow, .int (nI 0), .int (nI 0), .int (nI 0), .ref oi, .ref oe, .ref op, .long (0 : Int64), .long (0 : Int64), .long (0 : Int64)])), (ot, .inl (cI, 200, .inl (fun j_ => nI (0)))), (on, .inl (cI, 78, .inl (fun j_ => nI ((nup (nup (nup (agC (agC (agC (agC (agC (agC (nup (fun j_ => 0) 0 4) 0 0 2) 0 1 3) 1 4 5) 0 0 3) 0 1 2) 1 7 8) 2 6) 3 9) 4 3) j_)))), (od, .inl (cI, 78, .inl (fun j_ => nI (0)))), (ow, .inl (cI, 468, .inl (fun j_ => nI (0)))), (oi, .inl (cI, 32, .inl (fun j_ => nI (0)))), (oe, .inl (cJ, 256, .inr (.inl (fun _ => (0 : Int64))))), (op, .inl (cJ, 256, .inr (.inl (fun _ => (0 : Int64)))))] rfl rfl (by omega) (by decide) (by rw [nup_I]; rfl) ?_
  exact hret (ot, on, od, ow, oi, oe, op) _ _ trivial dX7_init_156

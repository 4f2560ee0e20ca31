set_option maxRecDepth 100000 in
set_option maxHeartbeats 4000000 in
/-- the law's loop -/
theorem law_loop {X : gT} {l : Launch} {D : va_G} {cC cI cJ cO : ClassId} {sc x o L : Nat} {xs : Nat → Int32} (hX : GX X l D (tyL cC cI cJ cO) room_1 cL_law 4 RL wsL_law) (hS : GS X sc L xs) (hE : GE X) (hL : L ≤ 2560) : ∀ n i : Nat, i ≤ L + 5 → L + 6 ≤ i + n → LK X cC cI cJ cO sc x o i 18 := by
  intro n
  induction n with
  | zero => intro i h1 h2; exact absurd h2 (by omega)
  | succ n ih =>
    intro i hi1 hi2
    have hk : i + 5 ≤ L → LK X cC cI cJ cO sc x o i 766 := by
      intro hz5 a la na len pl T G h k f s b dh dk df dx bd hi pr kp h0 k0 f0 s0 h1 k1 f1 s1 h2 k2 f2 s2 h3 k3 f3 s3 h4 k4 f4 s4 h5 k5 f5 s5 b0 b1 b2 b3 b4 b5 e we re sz mi ne fr cm Wd Rk v ou ex pa te tc vw al eE eP eC dj tch sf O EX PA TE ln va V ot on od ow oi oe op mva en aE aP lt c rd ww wi mEX mPA hl hT hok hag hkp hh hcw hsv
      refine g_iinc (v := nI (i + 5)) 3 [(0, .ref sc), (1, .ref x), (2, .ref o), (3, .int (nI (i + 5)))] [1, 2, 3, 0] (hd := dL_law_766) (C := hX) rfl (nI_add i 5) (by decide) rfl ?_
      refine g_goto 18 (hd := dL_law_769) (C := hX) (by decide) ?_
      exact ih (i + 5) (by omega) (by omega) a la na len pl T G h k f s b dh dk df dx bd hi pr kp h0 k0 f0 s0 h1 k1 f1 s1 h2 k2 f2 s2 h3 k3 f3 s3 h4 k4 f4 s4 h5 k5 f5 s5 b0 b1 b2 b3 b4 b5 e we re sz mi ne fr cm Wd Rk v ou ex pa te tc vw al eE eP eC dj tch sf O EX PA TE ln va V ot on od ow oi oe op mva en aE aP lt c rd ww wi mEX mPA hl hT hok hag hkp hh hcw hsv
    intro a la na len pl T G h k f s b dh dk df dx bd hi pr kp h0 k0 f0 s0 h1 k1 f1 s1 h2 k2 f2 s2 h3 k3 f3 s3 h4 k4 f4 s4 h5 k5 f5 s5 b0 b1 b2 b3 b4 b5 e we re sz mi ne fr cm Wd Rk v ou ex pa te tc vw al eE eP eC dj tch sf O EX PA TE ln va V ot on od ow oi oe op mva en aE aP lt c rd ww wi mEX mPA hl hT hok hag hkp hh hcw hsv
    show GW X [(x, .inr (6, [.ref a, .ref h, .ref dh, .ref hi, .ref e, .ref ln, .ref v])), (a, .inr (5, [.ref la, .ref na, .int (nI len), .int (nI pl)])), (la, .inl (cC, 200, .inl (fun j_ => nI (T j_)))), (na, .inl (cI, 3, .inl G)), (h, .inr (0, [.ref k, .ref f, .ref s, .int (nI (b 0)), .int (nI (b 1)), .int (nI (b 2)), .int (nI (b 3)), .int (nI (b 4)), .int (nI (b 5))])), (k, .inl (cI, 24, .inl (fun j_ => nI (b (6 + 3 * j_))))), (f, .inl (cI, 24, .inl (fun j_ => nI (b (7 + 3 * j_))))), (s, .inl (cI, 24, .inl (fun j_ => nI (b (8 + 3 * j_))))), (dh, .inr (0, [.ref dk, .ref df, .ref dx, .int (nI (bd 0)), .int (nI (bd 1)), .int (nI (bd 2)), .int (nI (bd 3)), .int (nI (bd 4)), .int (nI (bd 5))])), (dk, .inl (cI, 24, .inl (fun j_ => nI (bd (6 + 3 * j_))))), (df, .inl (cI, 24, .inl (fun j_ => nI (bd (7 + 3 * j_))))), (dx, .inl (cI, 24, .inl (fun j_ => nI (bd (8 + 3 * j_))))), (hi, .inr (2, [.ref pr, .int (nI kp)])), (pr, .inl (cO, 6, .inr (.inr (.inr (.inr (pf6 h0 h1 h2 h3 h4 h5)))))), (h0, .inr (0, [.ref k0, .ref f0, .ref s0, .int (nI (b0 0)), .int (nI (b0 1)), .int (nI (b0 2)), .int (nI (b0 3)), .int (nI (b0 4)), .int (nI (b0 5))])), (k0, .inl (cI, 24, .inl (fun j_ => nI (b0 (6 + 3 * j_))))), (f0, .inl (cI, 24, .inl (fun j_ => nI (b0 (7 + 3 * j_))))), (s0, .inl (cI, 24, .inl (fun j_ => nI (b0 (8 + 3 * j_))))), (h1, .inr (0, [.ref k1, .ref f1, .ref s1, .int (nI (b1 0)), .int (nI (b1 1)), .int (nI (b1 2)), .int (nI (b1 3)), .int (nI (b1 4)), .int (nI (b1 5))])), (k1, .inl (cI, 24, .inl (fun j_ => nI (b1 (6 + 3 * j_))))), (f1, .inl (cI, 24, .inl (fun j_ => nI (b1 (7 + 3 * j_))))), (s1, .inl (cI, 24, .inl (fun j_ => nI (b1 (8 + 3 * j_))))), (h2, .inr (0, [.ref k2, .ref f2, .ref s2, .int (nI (b2 0)), .int (nI (b2 1)), .int (nI (b2 2)), .int (nI (b2 3)), .int (nI (b2 4)), .int (nI (b2 5))])), (k2, .inl (cI, 24, .inl (fun j_ => nI (b2 (6 + 3 * j_))))), (f2, .inl (cI, 24, .inl (fun j_ => nI (b2 (7 + 3 * j_))))), (s2, .inl (cI, 24, .inl (fun j_ => nI (b2 (8 + 3 * j_))))), (h3, .inr (0, [.ref k3, .ref f3, .ref s3, .int (nI (b3 0)), .int (nI (b3 1)), .int (nI (b3 2)), .int (nI (b3 3)), .int (nI (b3 4)), .int (nI (b3 5))])), (k3, .inl (cI, 24, .inl (fun j_ => nI (b3 (6 + 3 * j_))))), (f3, .inl (cI, 24, .inl (fun j_ => nI (b3 (7 + 3 * j_))))), (s3, .inl (cI, 24, .inl (fun j_ => nI (b3 (8 + 3 * j_))))), (h4, .inr (0, [.ref k4, .ref f4, .ref s4, .int (nI (b4 0)), .int (nI (b4 1)), .int (nI (b4 2)), .int (nI (b4 3)), .int (nI (b4 4)), .int (nI (b4 5))])), (k4, .inl (cI, 24, .inl (fun j_ => nI (b4 (6 + 3 * j_))))), (f4, .inl (cI, 24, .inl (fun j_ => nI (b4 (7 + 3 * j_))))), (s4, .inl (cI, 24, .inl (fun j_ => nI (b4 (8 + 3 * j_))))), (h5, .inr (0, [.ref k5, .ref f5, .ref s5, .int (nI (b5 0)), .int (nI (b5 1)), .int (nI (b5 2)), .int (nI (b5 3)), .int (nI (b5 4)), .int (nI (b5 5))])), (k5, .inl (cI, 24, .inl (fun j_ => nI (b5 (6 + 3 * j_))))), (f5, .inl (cI, 24, .inl (fun j_ => nI (b5 (7 + 3 * j_))))), (s5, .inl (cI, 24, .inl (fun j_ => nI (b5 (8 + 3 * j_))))), (e, .inr (1, [.ref we, .ref re, .int (nI sz), .int mi, .int ne, .int (nI fr), .int (nI cm)])), (we, .inl (cI, 256, .inl (fun j_ => nI (Wd j_)))), (re, .inl (cI, 256, .inl Rk)), (v, .inr (4, [.ref ou, .ref ex, .ref pa, .ref te, .int (nI tc), .int (nI vw), .long al, .long eE, .long eP, .long eC, .int (nI dj), .int (nI tch), .int (nI sf)])), (ou, .inl (cI, 256, .inl (fun j_ => nI (O j_)))), (ex, .inl (cJ, 256, .inr (.inl EX))), (pa, .inl (cJ, 256, .inr (.inl PA))), (te, .inl (cI, 64, .inl (fun j_ => nI (TE j_)))), (ln, .inr (3, [.ref va])), (va, .inl (cJ, 32, .inr (.inl V))), (o, .inr (7, [.int (nI len), .ref ot, .ref on, .ref od, .ref ow, .int (nI kp), .int (nI mva), .int (nI en), .ref oi, .ref oe, .ref op, .long aE, .long aP, .long lt])), (ot, .inl (cI, 200, .inl (fun j_ => nI (T j_)))), (on, .inl (cI, 78, .inl (fun j_ => nI (c j_)))), (od, .inl (cI, 78, .inl (fun j_ => nI (rd j_)))), (ow, .inl (cI, 468, .inl (fun j_ => nI (ww j_)))), (oi, .inl (cI, 32, .inl (fun j_ => nI (wi j_)))), (oe, .inl (cJ, 256, .inr (.inl mEX))), (op, .inl (cJ, 256, .inr (.inl mPA)))] [(0, .ref sc), (1, .ref x), (2, .ref o), (3, .int (nI i))] [] 18 56 3649
    refine g_iload_n 3 (hd := dL_law_18) (C := hX) rfl rfl ?_
    refine g_aload_n 0 (hd := dL_law_19) (C := hX) rfl rfl ?_
    refine g_slen hX hS dL_law_20 ?_
    refine g_iconst (v := nI 5) hX dL_law_21 (by decide) ?_
    refine g_isub hX dL_law_22 ?_
    refine g_icmp_gt 772 (hd := dL_law_23) (C := hX) (by decide) (fun c_23 => ?_) (fun c_23 => ?_)
    · refine g_iconst (v := nI 1) hX dL_law_772 (by decide) ?_
      exact g_end hX hE (Nat.le_of_ble_eq_true rfl) (Nat.le_of_ble_eq_true rfl) dL_law_773
    · have hz5 := lp_t (by omega) hL c_23
      refine g_aload_n 0 (hd := dL_law_26) (C := hX) rfl rfl ?_
      refine g_iload_n 3 (hd := dL_law_27) (C := hX) rfl rfl ?_
      refine g_sld hX hS (i := i) hL (by omega) dL_law_28 ?_
      refine g_bipush (v := nI 31) hX dL_law_29 (by decide) ?_
      refine g_iand hX dL_law_31 ?_
      rcases sw_raw ((xs i) &&& (nI 31)) 23 (by decide) with ⟨jq, hjq, ejq⟩ | oq
      · rcases (show jq = 0 ∨ jq = 1 ∨ jq = 2 ∨ jq = 3 ∨ jq = 4 ∨ jq = 5 ∨ jq = 6 ∨ jq = 7 ∨ jq = 8 ∨ jq = 9 ∨ jq = 10 ∨ jq = 11 ∨ jq = 12 ∨ jq = 13 ∨ jq = 14 ∨ jq = 15 ∨ jq = 16 ∨ jq = 17 ∨ jq = 18 ∨ jq = 19 ∨ jq = 20 ∨ jq = 21 ∨ jq = 22 ∨ jq = 23 by omega) with rfl | rfl | rfl | rfl | rfl | rfl | rfl | rfl | rfl | rfl | rfl | rfl | rfl | rfl | rfl | rfl | rfl | rfl | rfl | rfl | rfl | rfl | rfl | rfl
        · refine g_top (y := nI 0) ejq ?_
          refine g_tableIn 144 (hd := dL_law_32) (C := hX) (by decide) (by decide) rfl (by decide) ?_
          exact law_write hX hS hL hz5 (hk hz5) a la na len pl T G h k f s b dh dk df dx bd hi pr kp h0 k0 f0 s0 h1 k1 f1 s1 h2 k2 f2 s2 h3 k3 f3 s3 h4 k4 f4 s4 h5 k5 f5 s5 b0 b1 b2 b3 b4 b5 e we re sz mi ne fr cm Wd Rk v ou ex pa te tc vw al eE eP eC dj tch sf O EX PA TE ln va V ot on od ow oi oe op mva en aE aP lt c rd ww wi mEX mPA hl hT hok hag hkp hh hcw hsv
        · refine g_top (y := nI 1) ejq ?_
          refine g_tableIn 167 (hd := dL_law_32) (C := hX) (by decide) (by decide) rfl (by decide) ?_
          exact law_wipe hX hS hL hz5 (hk hz5) a la na len pl T G h k f s b dh dk df dx bd hi pr kp h0 k0 f0 s0 h1 k1 f1 s1 h2 k2 f2 s2 h3 k3 f3 s3 h4 k4 f4 s4 h5 k5 f5 s5 b0 b1 b2 b3 b4 b5 e we re sz mi ne fr cm Wd Rk v ou ex pa te tc vw al eE eP eC dj tch sf O EX PA TE ln va V ot on od ow oi oe op mva en aE aP lt c rd ww wi mEX mPA hl hT hok hag hkp hh hcw hsv
        · refine g_top (y := nI 2) ejq ?_
          refine g_tableIn 180 (hd := dL_law_32) (C := hX) (by decide) (by decide) rfl (by decide) ?_
          exact law_fault hX hS hL hz5 (hk hz5) a la na len pl T G h k f s b dh dk df dx bd hi pr kp h0 k0 f0 s0 h1 k1 f1 s1 h2 k2 f2 s2 h3 k3 f3 s3 h4 k4 f4 s4 h5 k5 f5 s5 b0 b1 b2 b3 b4 b5 e we re sz mi ne fr cm Wd Rk v ou ex pa te tc vw al eE eP eC dj tch sf O EX PA TE ln va V ot on od ow oi oe op mva en aE aP lt c rd ww wi mEX mPA hl hT hok hag hkp hh hcw hsv
        · refine g_top (y := nI 3) ejq ?_
          refine g_tableIn 193 (hd := dL_law_32) (C := hX) (by decide) (by decide) rfl (by decide) ?_
          exact law_lay hX hS hL hz5 (hk hz5) a la na len pl T G h k f s b dh dk df dx bd hi pr kp h0 k0 f0 s0 h1 k1 f1 s1 h2 k2 f2 s2 h3 k3 f3 s3 h4 k4 f4 s4 h5 k5 f5 s5 b0 b1 b2 b3 b4 b5 e we re sz mi ne fr cm Wd Rk v ou ex pa te tc vw al eE eP eC dj tch sf O EX PA TE ln va V ot on od ow oi oe op mva en aE aP lt c rd ww wi mEX mPA hl hT hok hag hkp hh hcw hsv
        · refine g_top (y := nI 4) ejq ?_
          refine g_tableIn 206 (hd := dL_law_32) (C := hX) (by decide) (by decide) rfl (by decide) ?_
          exact law_gate hX hS hL hz5 (hk hz5) a la na len pl T G h k f s b dh dk df dx bd hi pr kp h0 k0 f0 s0 h1 k1 f1 s1 h2 k2 f2 s2 h3 k3 f3 s3 h4 k4 f4 s4 h5 k5 f5 s5 b0 b1 b2 b3 b4 b5 e we re sz mi ne fr cm Wd Rk v ou ex pa te tc vw al eE eP eC dj tch sf O EX PA TE ln va V ot on od ow oi oe op mva en aE aP lt c rd ww wi mEX mPA hl hT hok hag hkp hh hcw hsv
        · refine g_top (y := nI 5) ejq ?_
          refine g_tableIn 259 (hd := dL_law_32) (C := hX) (by decide) (by decide) rfl (by decide) ?_
          exact law_add hX hS hL hz5 (hk hz5) a la na len pl T G h k f s b dh dk df dx bd hi pr kp h0 k0 f0 s0 h1 k1 f1 s1 h2 k2 f2 s2 h3 k3 f3 s3 h4 k4 f4 s4 h5 k5 f5 s5 b0 b1 b2 b3 b4 b5 e we re sz mi ne fr cm Wd Rk v ou ex pa te tc vw al eE eP eC dj tch sf O EX PA TE ln va V ot on od ow oi oe op mva en aE aP lt c rd ww wi mEX mPA hl hT hok hag hkp hh hcw hsv
        · refine g_top (y := nI 6) ejq ?_
          refine g_tableIn 302 (hd := dL_law_32) (C := hX) (by decide) (by decide) rfl (by decide) ?_
          exact law_rails hX hS hL hz5 (hk hz5) a la na len pl T G h k f s b dh dk df dx bd hi pr kp h0 k0 f0 s0 h1 k1 f1 s1 h2 k2 f2 s2 h3 k3 f3 s3 h4 k4 f4 s4 h5 k5 f5 s5 b0 b1 b2 b3 b4 b5 e we re sz mi ne fr cm Wd Rk v ou ex pa te tc vw al eE eP eC dj tch sf O EX PA TE ln va V ot on od ow oi oe op mva en aE aP lt c rd ww wi mEX mPA hl hT hok hag hkp hh hcw hsv
        · refine g_top (y := nI 7) ejq ?_
          refine g_tableIn 335 (hd := dL_law_32) (C := hX) (by decide) (by decide) rfl (by decide) ?_
          exact law_code hX hS hL hz5 (hk hz5) a la na len pl T G h k f s b dh dk df dx bd hi pr kp h0 k0 f0 s0 h1 k1 f1 s1 h2 k2 f2 s2 h3 k3 f3 s3 h4 k4 f4 s4 h5 k5 f5 s5 b0 b1 b2 b3 b4 b5 e we re sz mi ne fr cm Wd Rk v ou ex pa te tc vw al eE eP eC dj tch sf O EX PA TE ln va V ot on od ow oi oe op mva en aE aP lt c rd ww wi mEX mPA hl hT hok hag hkp hh hcw hsv
        · refine g_top (y := nI 8) ejq ?_
          refine g_tableIn 368 (hd := dL_law_32) (C := hX) (by decide) (by decide) rfl (by decide) ?_
          exact law_build hX hS hL hz5 (hk hz5) a la na len pl T G h k f s b dh dk df dx bd hi pr kp h0 k0 f0 s0 h1 k1 f1 s1 h2 k2 f2 s2 h3 k3 f3 s3 h4 k4 f4 s4 h5 k5 f5 s5 b0 b1 b2 b3 b4 b5 e we re sz mi ne fr cm Wd Rk v ou ex pa te tc vw al eE eP eC dj tch sf O EX PA TE ln va V ot on od ow oi oe op mva en aE aP lt c rd ww wi mEX mPA hl hT hok hag hkp hh hcw hsv
        · refine g_top (y := nI 9) ejq ?_
          refine g_tableIn 391 (hd := dL_law_32) (C := hX) (by decide) (by decide) rfl (by decide) ?_
          exact law_undo hX hS hL hz5 (hk hz5) a la na len pl T G h k f s b dh dk df dx bd hi pr kp h0 k0 f0 s0 h1 k1 f1 s1 h2 k2 f2 s2 h3 k3 f3 s3 h4 k4 f4 s4 h5 k5 f5 s5 b0 b1 b2 b3 b4 b5 e we re sz mi ne fr cm Wd Rk v ou ex pa te tc vw al eE eP eC dj tch sf O EX PA TE ln va V ot on od ow oi oe op mva en aE aP lt c rd ww wi mEX mPA hl hT hok hag hkp hh hcw hsv
        · refine g_top (y := nI 10) ejq ?_
          refine g_tableIn 404 (hd := dL_law_32) (C := hX) (by decide) (by decide) rfl (by decide) ?_
          exact law_gateOf hX hS hL hz5 (hk hz5) a la na len pl T G h k f s b dh dk df dx bd hi pr kp h0 k0 f0 s0 h1 k1 f1 s1 h2 k2 f2 s2 h3 k3 f3 s3 h4 k4 f4 s4 h5 k5 f5 s5 b0 b1 b2 b3 b4 b5 e we re sz mi ne fr cm Wd Rk v ou ex pa te tc vw al eE eP eC dj tch sf O EX PA TE ln va V ot on od ow oi oe op mva en aE aP lt c rd ww wi mEX mPA hl hT hok hag hkp hh hcw hsv
        · refine g_top (y := nI 11) ejq ?_
          refine g_tableIn 437 (hd := dL_law_32) (C := hX) (by decide) (by decide) rfl (by decide) ?_
          exact law_wire hX hS hL hz5 (hk hz5) a la na len pl T G h k f s b dh dk df dx bd hi pr kp h0 k0 f0 s0 h1 k1 f1 s1 h2 k2 f2 s2 h3 k3 f3 s3 h4 k4 f4 s4 h5 k5 f5 s5 b0 b1 b2 b3 b4 b5 e we re sz mi ne fr cm Wd Rk v ou ex pa te tc vw al eE eP eC dj tch sf O EX PA TE ln va V ot on od ow oi oe op mva en aE aP lt c rd ww wi mEX mPA hl hT hok hag hkp hh hcw hsv
        · refine g_top (y := nI 12) ejq ?_
          refine g_tableIn 470 (hd := dL_law_32) (C := hX) (by decide) (by decide) rfl (by decide) ?_
          exact law_out hX hS hL hz5 (hk hz5) a la na len pl T G h k f s b dh dk df dx bd hi pr kp h0 k0 f0 s0 h1 k1 f1 s1 h2 k2 f2 s2 h3 k3 f3 s3 h4 k4 f4 s4 h5 k5 f5 s5 b0 b1 b2 b3 b4 b5 e we re sz mi ne fr cm Wd Rk v ou ex pa te tc vw al eE eP eC dj tch sf O EX PA TE ln va V ot on od ow oi oe op mva en aE aP lt c rd ww wi mEX mPA hl hT hok hag hkp hh hcw hsv
        · refine g_top (y := nI 13) ejq ?_
          refine g_tableIn 503 (hd := dL_law_32) (C := hX) (by decide) (by decide) rfl (by decide) ?_
          exact law_word hX hS hL hz5 (hk hz5) a la na len pl T G h k f s b dh dk df dx bd hi pr kp h0 k0 f0 s0 h1 k1 f1 s1 h2 k2 f2 s2 h3 k3 f3 s3 h4 k4 f4 s4 h5 k5 f5 s5 b0 b1 b2 b3 b4 b5 e we re sz mi ne fr cm Wd Rk v ou ex pa te tc vw al eE eP eC dj tch sf O EX PA TE ln va V ot on od ow oi oe op mva en aE aP lt c rd ww wi mEX mPA hl hT hok hag hkp hh hcw hsv
        · refine g_top (y := nI 14) ejq ?_
          refine g_tableIn 526 (hd := dL_law_32) (C := hX) (by decide) (by decide) rfl (by decide) ?_
          exact law_rank hX hS hL hz5 (hk hz5) a la na len pl T G h k f s b dh dk df dx bd hi pr kp h0 k0 f0 s0 h1 k1 f1 s1 h2 k2 f2 s2 h3 k3 f3 s3 h4 k4 f4 s4 h5 k5 f5 s5 b0 b1 b2 b3 b4 b5 e we re sz mi ne fr cm Wd Rk v ou ex pa te tc vw al eE eP eC dj tch sf O EX PA TE ln va V ot on od ow oi oe op mva en aE aP lt c rd ww wi mEX mPA hl hT hok hag hkp hh hcw hsv
        · refine g_top (y := nI 15) ejq ?_
          refine g_tableIn 549 (hd := dL_law_32) (C := hX) (by decide) (by decide) rfl (by decide) ?_
          exact law_missed hX hS hL hz5 (hk hz5) a la na len pl T G h k f s b dh dk df dx bd hi pr kp h0 k0 f0 s0 h1 k1 f1 s1 h2 k2 f2 s2 h3 k3 f3 s3 h4 k4 f4 s4 h5 k5 f5 s5 b0 b1 b2 b3 b4 b5 e we re sz mi ne fr cm Wd Rk v ou ex pa te tc vw al eE eP eC dj tch sf O EX PA TE ln va V ot on od ow oi oe op mva en aE aP lt c rd ww wi mEX mPA hl hT hok hag hkp hh hcw hsv
        · refine g_top (y := nI 16) ejq ?_
          refine g_tableIn 562 (hd := dL_law_32) (C := hX) (by decide) (by decide) rfl (by decide) ?_
          exact law_near hX hS hL hz5 (hk hz5) a la na len pl T G h k f s b dh dk df dx bd hi pr kp h0 k0 f0 s0 h1 k1 f1 s1 h2 k2 f2 s2 h3 k3 f3 s3 h4 k4 f4 s4 h5 k5 f5 s5 b0 b1 b2 b3 b4 b5 e we re sz mi ne fr cm Wd Rk v ou ex pa te tc vw al eE eP eC dj tch sf O EX PA TE ln va V ot on od ow oi oe op mva en aE aP lt c rd ww wi mEX mPA hl hT hok hag hkp hh hcw hsv
        · refine g_top (y := nI 17) ejq ?_
          refine g_tableIn 575 (hd := dL_law_32) (C := hX) (by decide) (by decide) rfl (by decide) ?_
          exact law_stuck hX hS hL hz5 (hk hz5) a la na len pl T G h k f s b dh dk df dx bd hi pr kp h0 k0 f0 s0 h1 k1 f1 s1 h2 k2 f2 s2 h3 k3 f3 s3 h4 k4 f4 s4 h5 k5 f5 s5 b0 b1 b2 b3 b4 b5 e we re sz mi ne fr cm Wd Rk v ou ex pa te tc vw al eE eP eC dj tch sf O EX PA TE ln va V ot on od ow oi oe op mva en aE aP lt c rd ww wi mEX mPA hl hT hok hag hkp hh hcw hsv
        · refine g_top (y := nI 18) ejq ?_
          refine g_tableIn 608 (hd := dL_law_32) (C := hX) (by decide) (by decide) rfl (by decide) ?_
          exact law_exposes hX hS hL hz5 (hk hz5) a la na len pl T G h k f s b dh dk df dx bd hi pr kp h0 k0 f0 s0 h1 k1 f1 s1 h2 k2 f2 s2 h3 k3 f3 s3 h4 k4 f4 s4 h5 k5 f5 s5 b0 b1 b2 b3 b4 b5 e we re sz mi ne fr cm Wd Rk v ou ex pa te tc vw al eE eP eC dj tch sf O EX PA TE ln va V ot on od ow oi oe op mva en aE aP lt c rd ww wi mEX mPA hl hT hok hag hkp hh hcw hsv
        · refine g_top (y := nI 19) ejq ?_
          refine g_tableIn 631 (hd := dL_law_32) (C := hX) (by decide) (by decide) rfl (by decide) ?_
          exact law_is hX hS hL hz5 (hk hz5) a la na len pl T G h k f s b dh dk df dx bd hi pr kp h0 k0 f0 s0 h1 k1 f1 s1 h2 k2 f2 s2 h3 k3 f3 s3 h4 k4 f4 s4 h5 k5 f5 s5 b0 b1 b2 b3 b4 b5 e we re sz mi ne fr cm Wd Rk v ou ex pa te tc vw al eE eP eC dj tch sf O EX PA TE ln va V ot on od ow oi oe op mva en aE aP lt c rd ww wi mEX mPA hl hT hok hag hkp hh hcw hsv
        · refine g_top (y := nI 20) ejq ?_
          refine g_tableIn 654 (hd := dL_law_32) (C := hX) (by decide) (by decide) rfl (by decide) ?_
          exact law_stucks hX hS hL hz5 (hk hz5) a la na len pl T G h k f s b dh dk df dx bd hi pr kp h0 k0 f0 s0 h1 k1 f1 s1 h2 k2 f2 s2 h3 k3 f3 s3 h4 k4 f4 s4 h5 k5 f5 s5 b0 b1 b2 b3 b4 b5 e we re sz mi ne fr cm Wd Rk v ou ex pa te tc vw al eE eP eC dj tch sf O EX PA TE ln va V ot on od ow oi oe op mva en aE aP lt c rd ww wi mEX mPA hl hT hok hag hkp hh hcw hsv
        · refine g_top (y := nI 21) ejq ?_
          refine g_tableIn 677 (hd := dL_law_32) (C := hX) (by decide) (by decide) rfl (by decide) ?_
          exact law_test hX hS hL hz5 (hk hz5) a la na len pl T G h k f s b dh dk df dx bd hi pr kp h0 k0 f0 s0 h1 k1 f1 s1 h2 k2 f2 s2 h3 k3 f3 s3 h4 k4 f4 s4 h5 k5 f5 s5 b0 b1 b2 b3 b4 b5 e we re sz mi ne fr cm Wd Rk v ou ex pa te tc vw al eE eP eC dj tch sf O EX PA TE ln va V ot on od ow oi oe op mva en aE aP lt c rd ww wi mEX mPA hl hT hok hag hkp hh hcw hsv
        · refine g_top (y := nI 22) ejq ?_
          refine g_tableIn 700 (hd := dL_law_32) (C := hX) (by decide) (by decide) rfl (by decide) ?_
          exact law_both hX hS hL hz5 (hk hz5) a la na len pl T G h k f s b dh dk df dx bd hi pr kp h0 k0 f0 s0 h1 k1 f1 s1 h2 k2 f2 s2 h3 k3 f3 s3 h4 k4 f4 s4 h5 k5 f5 s5 b0 b1 b2 b3 b4 b5 e we re sz mi ne fr cm Wd Rk v ou ex pa te tc vw al eE eP eC dj tch sf O EX PA TE ln va V ot on od ow oi oe op mva en aE aP lt c rd ww wi mEX mPA hl hT hok hag hkp hh hcw hsv
        · refine g_top (y := nI 23) ejq ?_
          refine g_tableIn 743 (hd := dL_law_32) (C := hX) (by decide) (by decide) rfl (by decide) ?_
          exact law_count hX hS hL hz5 (hk hz5) a la na len pl T G h k f s b dh dk df dx bd hi pr kp h0 k0 f0 s0 h1 k1 f1 s1 h2 k2 f2 s2 h3 k3 f3 s3 h4 k4 f4 s4 h5 k5 f5 s5 b0 b1 b2 b3 b4 b5 e we re sz mi ne fr cm Wd Rk v ou ex pa te tc vw al eE eP eC dj tch sf O EX PA TE ln va V ot on od ow oi oe op mva en aE aP lt c rd ww wi mEX mPA hl hT hok hag hkp hh hcw hsv
      · refine g_tableOut 766 (hd := dL_law_32) (C := hX) oq (by decide) ?_
        exact hk hz5 a la na len pl T G h k f s b dh dk df dx bd hi pr kp h0 k0 f0 s0 h1 k1 f1 s1 h2 k2 f2 s2 h3 k3 f3 s3 h4 k4 f4 s4 h5 k5 f5 s5 b0 b1 b2 b3 b4 b5 e we re sz mi ne fr cm Wd Rk v ou ex pa te tc vw al eE eP eC dj tch sf O EX PA TE ln va V ot on od ow oi oe op mva en aE aP lt c rd ww wi mEX mPA hl hT hok hag hkp hh hcw hsv

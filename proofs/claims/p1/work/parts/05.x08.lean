set_option maxHeartbeats 4000000 in
set_option maxRecDepth 100000 in
theorem m_X11_setWind (l : Launch) (hl0 : l.stackTraces = false) (g : kG) (h0 : Nat) (a1 : Nat) (a2 : Nat) (a3 : Nat) (a4 : Nat) (a5 : Nat) (tt : Int32) (wf : Int32) (ww : Int32) (te : Int32) (tn : Int32) (mo : Int32) (x0 : Int32) (x1 : Int32) (hn : narrow .char (.int x1) = .int x1) (hf : fits .char (.int x1) = true) : kc l g yX11_setWind prog_1_method_5_code 4 (some .int) 7 104 2 12 [.ref h0, .int x0, .int x1] [(h0, .inr (15, [.ref a1, .ref a2, .ref a3, .ref a4, .ref a5, .int tt, .int wf, .int ww, .int te, .int tn, .int mo]))] (fun v w => (v = some (.int wf) ∧ w = [] ∧ (inR x0 0 12 && kway x1) = true)) (fun E w => (E = "java/lang/IllegalArgumentException" ∧ w = [] ∧ (inR x0 0 12 && kway x1) = false)) := by
  refine kbody (by decide) (Nat.le_of_ble_eq_true rfl) ?_
  intro p e s m args below meth c A H K ht G hP hD hA hS ls hl
  have K : KB p s m meth c RX11 "setWind" prog_1_method_5_code 4 (some .int) := K
  obtain ⟨hx, hb, hml, hown, hlocks, hr, hin⟩ := id K
  have hl : lv_has ls 4 [(0, .ref h0), (1, .int x0), (2, .int x1)] := hl
  refine lv_iload_n hx hb dX11_setWind_0 rfl (lv_at hl 1 rfl) ?_
  refine lv_iconst (v := 0) hx hb dX11_setWind_1 (by decide) ?_
  refine lv_bipush (v := 12) hx hb dX11_setWind_2 (by decide) ?_
  refine kcallS (wc := []) (wr := [(h0, .inr (15, [.ref a1, .ref a2, .ref a3, .ref a4, .ref a5, .int tt, .int wf, .int ww, .int te, .int tn, .int mo]))]) (As := [.int x0, .int 0, .int 12]) (rest := []) K G (m_X11_requireRange l hl0 g x0 0 12 ) hP hD hS hA hl kw_2 kw_3 kw_5 kw_4 ydX11_requireRange [] [0] rfl rfl rfl rfl (by decide) rfl rfl (Nat.le_of_ble_eq_true rfl) dX11_setWind_4 ⟨Nat.le_of_ble_eq_true rfl, Nat.le_of_ble_eq_true rfl⟩ ⟨Nat.le_of_ble_eq_true rfl, Nat.le_of_ble_eq_true rfl⟩ (fun E w1 ce q9 H locs hX hP hD hS hce hcv hcl => ?_) (fun v w1 H locs hQ hP hD hS => ?_)
  · obtain ⟨rfl, rfl, f_2⟩ := hX
    have hP : va_P g.1 vwCl [(h0, .inr (15, [.ref a1, .ref a2, .ref a3, .ref a4, .ref a5, .int tt, .int wf, .int ww, .int te, .int tn, .int mo]))] H := hP
    have hD : va_D A [(h0, .inr (15, [.ref a1, .ref a2, .ref a3, .ref a4, .ref a5, .int tt, .int wf, .int ww, .int te, .int tn, .int mo]))] := hD
    refine vx_widen (k := 1) (n := 6) (by decide) (by decide) ?_
    exact kthrow K ht hP hD hS hce hcv hcl [] [] rfl rfl (⟨rfl, rfl, (by simp [kway, f_2])⟩) (by decide) (by decide)
  · obtain ⟨rfl, rfl, f_3⟩ := hQ
    have hP : va_P g.1 vwCl [(h0, .inr (15, [.ref a1, .ref a2, .ref a3, .ref a4, .ref a5, .int tt, .int wf, .int ww, .int te, .int tn, .int mo]))] H := hP
    have hD : va_D A [(h0, .inr (15, [.ref a1, .ref a2, .ref a3, .ref a4, .ref a5, .int tt, .int wf, .int ww, .int te, .int tn, .int mo]))] := hD
    refine W.widen (k := 1) (n := 6) (by decide) (by decide) ?_
    refine W.eq (g2 := F0 m 7 ls []) rfl ?_
    refine lv_iload_n hx hb dX11_setWind_7 rfl (lv_at hl 2 rfl) ?_
    refine lv_bipush (v := 110) hx hb dX11_setWind_8 (by decide) ?_
    refine lv_icmp_eq (tgt := 41) hx hb dX11_setWind_10 (by decide) (fun c10_4 => ?_) (fun c10_4 => ?_)
    · refine lv_aload_n hx hb dX11_setWind_41 rfl (lv_at hl 0 rfl) ?_
      refine va_get (D := g.1) (ci := 15) (v := .int wf) (C := RX11) (T := TX11) (N := 11) hx hb G.ws inX11 hown G.K hP 0 rfl rfl 6 (by decide) (G.w kw_77) (fun _ h9 => h9) rfl dX11_setWind_42 ?_
      refine lv_istore_n (lv' := [(3, .int wf), (0, .ref h0), (1, .int x0), (2, .int x1)]) hx hb dX11_setWind_45 rfl hl (by decide) rfl (fun ls hl => ?_)
      refine lv_aload_n hx hb dX11_setWind_46 rfl (lv_at hl 1 rfl) ?_
      refine lv_iload_n hx hb dX11_setWind_47 rfl (lv_at hl 2 rfl) ?_
      refine va_put (D := g.1) (ci := 15) (v := .int x0) (ty := .int) (C := RX11) (T := TX11) (N := 11) hx hb G.ws inX11 tyX11 tyX11_ok nmX11 hown G.K hP hD hS 0 rfl rfl 6 (by decide) (G.w kw_77) (fun _ h9 => h9) (by decide +kernel) (by decide +kernel) rfl rfl (Nat.le_of_ble_eq_true rfl) dX11_setWind_48 (fun H locs hP hD hS => ?_)
      have hP : va_P g.1 vwCl [(h0, .inr (15, [.ref a1, .ref a2, .ref a3, .ref a4, .ref a5, .int tt, .int x0, .int ww, .int te, .int tn, .int mo]))] H := hP
      have hD : va_D A [(h0, .inr (15, [.ref a1, .ref a2, .ref a3, .ref a4, .ref a5, .int tt, .int x0, .int ww, .int te, .int tn, .int mo]))] := hD
      refine lv_aload_n hx hb dX11_setWind_51 rfl (lv_at hl 1 rfl) ?_
      refine lv_iload_n hx hb dX11_setWind_52 rfl (lv_at hl 3 rfl) ?_
      refine va_put (D := g.1) (ci := 15) (v := .int x1) (ty := .char) (C := RX11) (T := TX11) (N := 11) hx hb G.ws inX11 tyX11 tyX11_ok nmX11 hown G.K hP hD hS 0 rfl rfl 7 (by decide) (G.w kw_203) (fun _ h9 => h9) (by decide +kernel) (by decide +kernel) hn hf (Nat.le_of_ble_eq_true rfl) dX11_setWind_53 (fun H locs hP hD hS => ?_)
      have hP : va_P g.1 vwCl [(h0, .inr (15, [.ref a1, .ref a2, .ref a3, .ref a4, .ref a5, .int tt, .int x0, .int x1, .int te, .int tn, .int mo]))] H := hP
      have hD : va_D A [(h0, .inr (15, [.ref a1, .ref a2, .ref a3, .ref a4, .ref a5, .int tt, .int x0, .int x1, .int te, .int tn, .int mo]))] := hD
      refine lv_iload_n hx hb dX11_setWind_56 rfl (lv_at hl 0 rfl) ?_
      exact kretI K hP hD hS [] [] rfl rfl (⟨rfl, rfl, (by simp [kway, f_3, c10_4])⟩) (by decide) (by decide) dX11_setWind_57
    · refine lv_iload_n hx hb dX11_setWind_13 rfl (lv_at hl 2 rfl) ?_
      refine lv_bipush (v := 101) hx hb dX11_setWind_14 (by decide) ?_
      refine lv_icmp_eq (tgt := 41) hx hb dX11_setWind_16 (by decide) (fun c16_5 => ?_) (fun c16_5 => ?_)
      · refine lv_aload_n hx hb dX11_setWind_41 rfl (lv_at hl 0 rfl) ?_
        refine va_get (D := g.1) (ci := 15) (v := .int wf) (C := RX11) (T := TX11) (N := 11) hx hb G.ws inX11 hown G.K hP 0 rfl rfl 6 (by decide) (G.w kw_77) (fun _ h9 => h9) rfl dX11_setWind_42 ?_
        refine lv_istore_n (lv' := [(3, .int wf), (0, .ref h0), (1, .int x0), (2, .int x1)]) hx hb dX11_setWind_45 rfl hl (by decide) rfl (fun ls hl => ?_)
        refine lv_aload_n hx hb dX11_setWind_46 rfl (lv_at hl 1 rfl) ?_
        refine lv_iload_n hx hb dX11_setWind_47 rfl (lv_at hl 2 rfl) ?_
        refine va_put (D := g.1) (ci := 15) (v := .int x0) (ty := .int) (C := RX11) (T := TX11) (N := 11) hx hb G.ws inX11 tyX11 tyX11_ok nmX11 hown G.K hP hD hS 0 rfl rfl 6 (by decide) (G.w kw_77) (fun _ h9 => h9) (by decide +kernel) (by decide +kernel) rfl rfl (Nat.le_of_ble_eq_true rfl) dX11_setWind_48 (fun H locs hP hD hS => ?_)
        have hP : va_P g.1 vwCl [(h0, .inr (15, [.ref a1, .ref a2, .ref a3, .ref a4, .ref a5, .int tt, .int x0, .int ww, .int te, .int tn, .int mo]))] H := hP
        have hD : va_D A [(h0, .inr (15, [.ref a1, .ref a2, .ref a3, .ref a4, .ref a5, .int tt, .int x0, .int ww, .int te, .int tn, .int mo]))] := hD
        refine lv_aload_n hx hb dX11_setWind_51 rfl (lv_at hl 1 rfl) ?_
        refine lv_iload_n hx hb dX11_setWind_52 rfl (lv_at hl 3 rfl) ?_
        refine va_put (D := g.1) (ci := 15) (v := .int x1) (ty := .char) (C := RX11) (T := TX11) (N := 11) hx hb G.ws inX11 tyX11 tyX11_ok nmX11 hown G.K hP hD hS 0 rfl rfl 7 (by decide) (G.w kw_203) (fun _ h9 => h9) (by decide +kernel) (by decide +kernel) hn hf (Nat.le_of_ble_eq_true rfl) dX11_setWind_53 (fun H locs hP hD hS => ?_)
        have hP : va_P g.1 vwCl [(h0, .inr (15, [.ref a1, .ref a2, .ref a3, .ref a4, .ref a5, .int tt, .int x0, .int x1, .int te, .int tn, .int mo]))] H := hP
        have hD : va_D A [(h0, .inr (15, [.ref a1, .ref a2, .ref a3, .ref a4, .ref a5, .int tt, .int x0, .int x1, .int te, .int tn, .int mo]))] := hD
        refine lv_iload_n hx hb dX11_setWind_56 rfl (lv_at hl 0 rfl) ?_
        exact kretI K hP hD hS [] [] rfl rfl (⟨rfl, rfl, (by simp [kway, f_3, c10_4, c16_5])⟩) (by decide) (by decide) dX11_setWind_57
      · refine lv_iload_n hx hb dX11_setWind_19 rfl (lv_at hl 2 rfl) ?_
        refine lv_bipush (v := 115) hx hb dX11_setWind_20 (by decide) ?_
        refine lv_icmp_eq (tgt := 41) hx hb dX11_setWind_22 (by decide) (fun c22_6 => ?_) (fun c22_6 => ?_)
        · refine lv_aload_n hx hb dX11_setWind_41 rfl (lv_at hl 0 rfl) ?_
          refine va_get (D := g.1) (ci := 15) (v := .int wf) (C := RX11) (T := TX11) (N := 11) hx hb G.ws inX11 hown G.K hP 0 rfl rfl 6 (by decide) (G.w kw_77) (fun _ h9 => h9) rfl dX11_setWind_42 ?_
          refine lv_istore_n (lv' := [(3, .int wf), (0, .ref h0), (1, .int x0), (2, .int x1)]) hx hb dX11_setWind_45 rfl hl (by decide) rfl (fun ls hl => ?_)
          refine lv_aload_n hx hb dX11_setWind_46 rfl (lv_at hl 1 rfl) ?_
          refine lv_iload_n hx hb dX11_setWind_47 rfl (lv_at hl 2 rfl) ?_
          refine va_put (D := g.1) (ci := 15) (v := .int x0) (ty := .int) (C := RX11) (T := TX11) (N := 11) hx hb G.ws inX11 tyX11 tyX11_ok nmX11 hown G.K hP hD hS 0 rfl rfl 6 (by decide) (G.w kw_77) (fun _ h9 => h9) (by decide +kernel) (by decide +kernel) rfl rfl (Nat.le_of_ble_eq_true rfl) dX11_setWind_48 (fun H locs hP hD hS => ?_)
          have hP : va_P g.1 vwCl [(h0, .inr (15, [.ref a1, .ref a2, .ref a3, .ref a4, .ref a5, .int tt, .int x0, .int ww, .int te, .int tn, .int mo]))] H := hP
          have hD : va_D A [(h0, .inr (15, [.ref a1, .ref a2, .ref a3, .ref a4, .ref a5, .int tt, .int x0, .int ww, .int te, .int tn, .int mo]))] := hD
          refine lv_aload_n hx hb dX11_setWind_51 rfl (lv_at hl 1 rfl) ?_
          refine lv_iload_n hx hb dX11_setWind_52 rfl (lv_at hl 3 rfl) ?_
          refine va_put (D := g.1) (ci := 15) (v := .int x1) (ty := .char) (C := RX11) (T := TX11) (N := 11) hx hb G.ws inX11 tyX11 tyX11_ok nmX11 hown G.K hP hD hS 0 rfl rfl 7 (by decide) (G.w kw_203) (fun _ h9 => h9) (by decide +kernel) (by decide +kernel) hn hf (Nat.le_of_ble_eq_true rfl) dX11_setWind_53 (fun H locs hP hD hS => ?_)
          have hP : va_P g.1 vwCl [(h0, .inr (15, [.ref a1, .ref a2, .ref a3, .ref a4, .ref a5, .int tt, .int x0, .int x1, .int te, .int tn, .int mo]))] H := hP
          have hD : va_D A [(h0, .inr (15, [.ref a1, .ref a2, .ref a3, .ref a4, .ref a5, .int tt, .int x0, .int x1, .int te, .int tn, .int mo]))] := hD
          refine lv_iload_n hx hb dX11_setWind_56 rfl (lv_at hl 0 rfl) ?_
          exact kretI K hP hD hS [] [] rfl rfl (⟨rfl, rfl, (by simp [kway, f_3, c10_4, c16_5, c22_6])⟩) (by decide) (by decide) dX11_setWind_57
        · refine lv_iload_n hx hb dX11_setWind_25 rfl (lv_at hl 2 rfl) ?_
          refine lv_bipush (v := 119) hx hb dX11_setWind_26 (by decide) ?_
          refine lv_icmp_eq (tgt := 41) hx hb dX11_setWind_28 (by decide) (fun c28_7 => ?_) (fun c28_7 => ?_)
          · refine lv_aload_n hx hb dX11_setWind_41 rfl (lv_at hl 0 rfl) ?_
            refine va_get (D := g.1) (ci := 15) (v := .int wf) (C := RX11) (T := TX11) (N := 11) hx hb G.ws inX11 hown G.K hP 0 rfl rfl 6 (by decide) (G.w kw_77) (fun _ h9 => h9) rfl dX11_setWind_42 ?_
            refine lv_istore_n (lv' := [(3, .int wf), (0, .ref h0), (1, .int x0), (2, .int x1)]) hx hb dX11_setWind_45 rfl hl (by decide) rfl (fun ls hl => ?_)
            refine lv_aload_n hx hb dX11_setWind_46 rfl (lv_at hl 1 rfl) ?_
            refine lv_iload_n hx hb dX11_setWind_47 rfl (lv_at hl 2 rfl) ?_
            refine va_put (D := g.1) (ci := 15) (v := .int x0) (ty := .int) (C := RX11) (T := TX11) (N := 11) hx hb G.ws inX11 tyX11 tyX11_ok nmX11 hown G.K hP hD hS 0 rfl rfl 6 (by decide) (G.w kw_77) (fun _ h9 => h9) (by decide +kernel) (by decide +kernel) rfl rfl (Nat.le_of_ble_eq_true rfl) dX11_setWind_48 (fun H locs hP hD hS => ?_)
            have hP : va_P g.1 vwCl [(h0, .inr (15, [.ref a1, .ref a2, .ref a3, .ref a4, .ref a5, .int tt, .int x0, .int ww, .int te, .int tn, .int mo]))] H := hP
            have hD : va_D A [(h0, .inr (15, [.ref a1, .ref a2, .ref a3, .ref a4, .ref a5, .int tt, .int x0, .int ww, .int te, .int tn, .int mo]))] := hD
            refine lv_aload_n hx hb dX11_setWind_51 rfl (lv_at hl 1 rfl) ?_
            refine lv_iload_n hx hb dX11_setWind_52 rfl (lv_at hl 3 rfl) ?_
            refine va_put (D := g.1) (ci := 15) (v := .int x1) (ty := .char) (C := RX11) (T := TX11) (N := 11) hx hb G.ws inX11 tyX11 tyX11_ok nmX11 hown G.K hP hD hS 0 rfl rfl 7 (by decide) (G.w kw_203) (fun _ h9 => h9) (by decide +kernel) (by decide +kernel) hn hf (Nat.le_of_ble_eq_true rfl) dX11_setWind_53 (fun H locs hP hD hS => ?_)
            have hP : va_P g.1 vwCl [(h0, .inr (15, [.ref a1, .ref a2, .ref a3, .ref a4, .ref a5, .int tt, .int x0, .int x1, .int te, .int tn, .int mo]))] H := hP
            have hD : va_D A [(h0, .inr (15, [.ref a1, .ref a2, .ref a3, .ref a4, .ref a5, .int tt, .int x0, .int x1, .int te, .int tn, .int mo]))] := hD
            refine lv_iload_n hx hb dX11_setWind_56 rfl (lv_at hl 0 rfl) ?_
            exact kretI K hP hD hS [] [] rfl rfl (⟨rfl, rfl, (by simp [kway, f_3, c10_4, c16_5, c22_6, c28_7])⟩) (by decide) (by decide) dX11_setWind_57
          · refine kthrowNew (cls := "java/lang/IllegalArgumentException") (text := "there is no such way") (names := ["java/lang/RuntimeException", "java/lang/Exception"]) (ik := 78) (ic := 82) (is := 80) hl0 K ht G hP hD hS hl (by decide +kernel) (by decide +kernel) kw_0 kw_1 (G.str (by decide +kernel)) at_X11_82 at_X11_82g dX11_setWind_31 dX11_setWind_34 dX11_setWind_35 dX11_setWind_37 dX11_setWind_40 (Nat.le_of_ble_eq_true rfl) (Nat.le_of_ble_eq_true rfl) (Nat.le_of_ble_eq_true rfl) (Nat.le_of_ble_eq_true rfl) [] [] rfl rfl (⟨rfl, rfl, (by simp [kway, f_3, c10_4, c16_5, c22_6, c28_7])⟩) (by decide) (by decide)

set_option maxHeartbeats 4000000 in
set_option maxRecDepth 100000 in
theorem m_X11_setTide (l : Launch) (hl0 : l.stackTraces = false) (g : kG) (h0 : Nat) (a1 : Nat) (a2 : Nat) (a3 : Nat) (a4 : Nat) (a5 : Nat) (tt : Int32) (wf : Int32) (ww : Int32) (te : Int32) (tn : Int32) (mo : Int32) (x0 : Int32) (x1 : Int32)  : kc l g yX11_setTide prog_1_method_6_code 4 (some .int) 7 104 2 12 [.ref h0, .int x0, .int x1] [(h0, .inr (15, [.ref a1, .ref a2, .ref a3, .ref a4, .ref a5, .int tt, .int wf, .int ww, .int te, .int tn, .int mo]))] (fun v w => (v = some (.int te) ∧ w = [] ∧ (inR x0 (-3) 3 && inR x1 (-3) 3) = true)) (fun E w => (E = "java/lang/IllegalArgumentException" ∧ w = [] ∧ (inR x0 (-3) 3 && inR x1 (-3) 3) = false)) := by
  refine kbody (by decide) (Nat.le_of_ble_eq_true rfl) ?_
  intro p e s m args below meth c A H K ht G hP hD hA hS ls hl
  have K : KB p s m meth c RX11 "setTide" prog_1_method_6_code 4 (some .int) := K
  obtain ⟨hx, hb, hml, hown, hlocks, hr, hin⟩ := id K
  have hl : lv_has ls 4 [(0, .ref h0), (1, .int x0), (2, .int x1)] := hl
  refine lv_iload_n hx hb dX11_setTide_0 rfl (lv_at hl 1 rfl) ?_
  refine lv_bipush (v := (-3)) hx hb dX11_setTide_1 (by decide) ?_
  refine lv_iconst (v := 3) hx hb dX11_setTide_3 (by decide) ?_
  refine kcallS (wc := []) (wr := [(h0, .inr (15, [.ref a1, .ref a2, .ref a3, .ref a4, .ref a5, .int tt, .int wf, .int ww, .int te, .int tn, .int mo]))]) (As := [.int x0, .int (-3), .int 3]) (rest := []) K G (m_X11_requireRange l hl0 g x0 (-3) 3 ) hP hD hS hA hl kw_2 kw_3 kw_5 kw_4 ydX11_requireRange [] [0] rfl rfl rfl rfl (by decide) rfl rfl (Nat.le_of_ble_eq_true rfl) dX11_setTide_4 ⟨Nat.le_of_ble_eq_true rfl, Nat.le_of_ble_eq_true rfl⟩ ⟨Nat.le_of_ble_eq_true rfl, Nat.le_of_ble_eq_true rfl⟩ (fun E w1 ce q9 H locs hX hP hD hS hce hcv hcl => ?_) (fun v w1 H locs hQ hP hD hS => ?_)
  · obtain ⟨rfl, rfl, f_2⟩ := hX
    have hP : va_P g.1 vwCl [(h0, .inr (15, [.ref a1, .ref a2, .ref a3, .ref a4, .ref a5, .int tt, .int wf, .int ww, .int te, .int tn, .int mo]))] H := hP
    have hD : va_D A [(h0, .inr (15, [.ref a1, .ref a2, .ref a3, .ref a4, .ref a5, .int tt, .int wf, .int ww, .int te, .int tn, .int mo]))] := hD
    refine vx_widen (k := 1) (n := 6) (by decide) (by decide) ?_
    exact kthrow K ht hP hD hS hce hcv hcl [] [] rfl rfl (⟨rfl, rfl, (by simp [f_2])⟩) (by decide) (by decide)
  · obtain ⟨rfl, rfl, f_3⟩ := hQ
    have hP : va_P g.1 vwCl [(h0, .inr (15, [.ref a1, .ref a2, .ref a3, .ref a4, .ref a5, .int tt, .int wf, .int ww, .int te, .int tn, .int mo]))] H := hP
    have hD : va_D A [(h0, .inr (15, [.ref a1, .ref a2, .ref a3, .ref a4, .ref a5, .int tt, .int wf, .int ww, .int te, .int tn, .int mo]))] := hD
    refine W.widen (k := 1) (n := 6) (by decide) (by decide) ?_
    refine W.eq (g2 := F0 m 7 ls []) rfl ?_
    refine lv_iload_n hx hb dX11_setTide_7 rfl (lv_at hl 2 rfl) ?_
    refine lv_bipush (v := (-3)) hx hb dX11_setTide_8 (by decide) ?_
    refine lv_iconst (v := 3) hx hb dX11_setTide_10 (by decide) ?_
    refine kcallS (wc := []) (wr := [(h0, .inr (15, [.ref a1, .ref a2, .ref a3, .ref a4, .ref a5, .int tt, .int wf, .int ww, .int te, .int tn, .int mo]))]) (As := [.int x1, .int (-3), .int 3]) (rest := []) K G (m_X11_requireRange l hl0 g x1 (-3) 3 ) hP hD hS hA hl kw_2 kw_3 kw_5 kw_4 ydX11_requireRange [] [0] rfl rfl rfl rfl (by decide) rfl rfl (Nat.le_of_ble_eq_true rfl) dX11_setTide_11 ⟨Nat.le_of_ble_eq_true rfl, Nat.le_of_ble_eq_true rfl⟩ ⟨Nat.le_of_ble_eq_true rfl, Nat.le_of_ble_eq_true rfl⟩ (fun E w1 ce q9 H locs hX hP hD hS hce hcv hcl => ?_) (fun v w1 H locs hQ hP hD hS => ?_)
    · obtain ⟨rfl, rfl, f_5⟩ := hX
      have hP : va_P g.1 vwCl [(h0, .inr (15, [.ref a1, .ref a2, .ref a3, .ref a4, .ref a5, .int tt, .int wf, .int ww, .int te, .int tn, .int mo]))] H := hP
      have hD : va_D A [(h0, .inr (15, [.ref a1, .ref a2, .ref a3, .ref a4, .ref a5, .int tt, .int wf, .int ww, .int te, .int tn, .int mo]))] := hD
      refine vx_widen (k := 2) (n := 12) (by decide) (by decide) ?_
      exact kthrow K ht hP hD hS hce hcv hcl [] [] rfl rfl (⟨rfl, rfl, (by simp [f_3, f_5])⟩) (by decide) (by decide)
    · obtain ⟨rfl, rfl, f_6⟩ := hQ
      have hP : va_P g.1 vwCl [(h0, .inr (15, [.ref a1, .ref a2, .ref a3, .ref a4, .ref a5, .int tt, .int wf, .int ww, .int te, .int tn, .int mo]))] H := hP
      have hD : va_D A [(h0, .inr (15, [.ref a1, .ref a2, .ref a3, .ref a4, .ref a5, .int tt, .int wf, .int ww, .int te, .int tn, .int mo]))] := hD
      refine W.widen (k := 2) (n := 12) (by decide) (by decide) ?_
      refine W.eq (g2 := F0 m 14 ls []) rfl ?_
      refine lv_aload_n hx hb dX11_setTide_14 rfl (lv_at hl 0 rfl) ?_
      refine va_get (D := g.1) (ci := 15) (v := .int te) (C := RX11) (T := TX11) (N := 11) hx hb G.ws inX11 hown G.K hP 0 rfl rfl 8 (by decide) (G.w kw_246) (fun _ h9 => h9) rfl dX11_setTide_15 ?_
      refine lv_istore_n (lv' := [(3, .int te), (0, .ref h0), (1, .int x0), (2, .int x1)]) hx hb dX11_setTide_18 rfl hl (by decide) rfl (fun ls hl => ?_)
      refine lv_aload_n hx hb dX11_setTide_19 rfl (lv_at hl 1 rfl) ?_
      refine lv_iload_n hx hb dX11_setTide_20 rfl (lv_at hl 2 rfl) ?_
      refine va_put (D := g.1) (ci := 15) (v := .int x0) (ty := .int) (C := RX11) (T := TX11) (N := 11) hx hb G.ws inX11 tyX11 tyX11_ok nmX11 hown G.K hP hD hS 0 rfl rfl 8 (by decide) (G.w kw_246) (fun _ h9 => h9) (by decide +kernel) (by decide +kernel) rfl rfl (Nat.le_of_ble_eq_true rfl) dX11_setTide_21 (fun H locs hP hD hS => ?_)
      have hP : va_P g.1 vwCl [(h0, .inr (15, [.ref a1, .ref a2, .ref a3, .ref a4, .ref a5, .int tt, .int wf, .int ww, .int x0, .int tn, .int mo]))] H := hP
      have hD : va_D A [(h0, .inr (15, [.ref a1, .ref a2, .ref a3, .ref a4, .ref a5, .int tt, .int wf, .int ww, .int x0, .int tn, .int mo]))] := hD
      refine lv_aload_n hx hb dX11_setTide_24 rfl (lv_at hl 1 rfl) ?_
      refine lv_iload_n hx hb dX11_setTide_25 rfl (lv_at hl 3 rfl) ?_
      refine va_put (D := g.1) (ci := 15) (v := .int x1) (ty := .int) (C := RX11) (T := TX11) (N := 11) hx hb G.ws inX11 tyX11 tyX11_ok nmX11 hown G.K hP hD hS 0 rfl rfl 9 (by decide) (G.w kw_247) (fun _ h9 => h9) (by decide +kernel) (by decide +kernel) rfl rfl (Nat.le_of_ble_eq_true rfl) dX11_setTide_26 (fun H locs hP hD hS => ?_)
      have hP : va_P g.1 vwCl [(h0, .inr (15, [.ref a1, .ref a2, .ref a3, .ref a4, .ref a5, .int tt, .int wf, .int ww, .int x0, .int x1, .int mo]))] H := hP
      have hD : va_D A [(h0, .inr (15, [.ref a1, .ref a2, .ref a3, .ref a4, .ref a5, .int tt, .int wf, .int ww, .int x0, .int x1, .int mo]))] := hD
      refine lv_iload_n hx hb dX11_setTide_29 rfl (lv_at hl 0 rfl) ?_
      exact kretI K hP hD hS [] [] rfl rfl (⟨rfl, rfl, (by simp [f_3, f_6])⟩) (by decide) (by decide) dX11_setTide_30

set_option maxHeartbeats 4000000 in
set_option maxRecDepth 100000 in
theorem m_X11_getMoney (l : Launch) (hl0 : l.stackTraces = false) (g : kG) (h0 : Nat) (a1 : Nat) (a2 : Nat) (a3 : Nat) (a4 : Nat) (a5 : Nat) (tt : Int32) (wf : Int32) (ww : Int32) (te : Int32) (tn : Int32) (mo : Int32)  : kc l g yX11_getMoney prog_1_method_40_code 1 (some .int) 0 0 0 0 [.ref h0] [(h0, .inr (15, [.ref a1, .ref a2, .ref a3, .ref a4, .ref a5, .int tt, .int wf, .int ww, .int te, .int tn, .int mo]))] (fun v w => (v = some (.int mo) ∧ w = [])) (fun _ _ => False) := by
  refine kbody (by decide) (Nat.le_of_ble_eq_true rfl) ?_
  intro p e s m args below meth c A H K ht G hP hD hA hS ls hl
  have K : KB p s m meth c RX11 "getMoney" prog_1_method_40_code 1 (some .int) := K
  obtain ⟨hx, hb, hml, hown, hlocks, hr, hin⟩ := id K
  have hl : lv_has ls 1 [(0, .ref h0)] := hl
  refine lv_aload_n hx hb dX11_getMoney_0 rfl (lv_at hl 0 rfl) ?_
  refine va_get (D := g.1) (ci := 15) (v := .int mo) (C := RX11) (T := TX11) (N := 11) hx hb G.ws inX11 hown G.K hP 0 rfl rfl 10 (by decide) (G.w kw_64) (fun _ h9 => h9) rfl dX11_getMoney_1 ?_
  exact kretI K hP hD hS [] [] rfl rfl (⟨rfl, rfl⟩) (by decide) (by decide) dX11_getMoney_4

set_option maxHeartbeats 4000000 in
set_option maxRecDepth 100000 in
theorem m_X11_getKept (l : Launch) (hl0 : l.stackTraces = false) (g : kG) (h0 : Nat) (a1 : Nat) (a2 : Nat) (a3 : Nat) (a4 : Nat) (a5 : Nat) (k0 : Nat) (r0 : Nat) (b1 : Nat) (b2 : Nat) (b3 : Nat) (b4 : Nat) (b5 : Nat) (b6 : Nat) (b7 : Nat) (b8 : Nat) (b9 : Nat) (b10 : Nat)  : kc l g yX11_getKept prog_1_method_44_code 1 (some .int) 0 0 0 0 [.ref h0] [(h0, .inr (15, [.ref a1, .ref a2, .ref a3, .ref a4, .ref a5, .int 0, .int 0, .int 110, .int 0, .int 0, .int 0])), (a1, .inr (3, [.int 0, .ref g.2.1, .int 0])), (a2, .inr (3, [.int 0, .ref g.2.1, .int 0])), (a3, .inr (3, [.int 0, .ref g.2.1, .int 0])), (a4, .inr (3, [.int 0, .ref g.2.1, .int 0])), (a5, .inr (5, [.ref k0, .ref r0, .ref b1, .ref b2, .ref b3, .ref b4, .ref b5, .int 0])), (k0, .inr (7, [.ref b6, .ref b7, .ref b8, .ref b9, .ref b10, .int 0, .int 0])), (r0, .inr (3, [.int 0, .ref g.2.1, .int 0]))] (fun v w => (v = some (.int 0) ∧ w = [])) (fun _ _ => False) := by
  refine kbody (by decide) (Nat.le_of_ble_eq_true rfl) ?_
  intro p e s m args below meth c A H K ht G hP hD hA hS ls hl
  have K : KB p s m meth c RX11 "getKept" prog_1_method_44_code 1 (some .int) := K
  obtain ⟨hx, hb, hml, hown, hlocks, hr, hin⟩ := id K
  have hl : lv_has ls 1 [(0, .ref h0)] := hl
  refine lv_aload_n hx hb dX11_getKept_0 rfl (lv_at hl 0 rfl) ?_
  refine va_get (D := g.1) (ci := 15) (v := .ref a5) (C := RX11) (T := TX11) (N := 11) hx hb G.ws inX11 hown G.K hP 0 rfl rfl 4 (by decide) (G.w kw_54) (fun _ h9 => h9) rfl dX11_getKept_1 ?_
  refine va_get (D := g.1) (ci := 5) (v := .ref k0) (C := RX1) (T := TX1) (N := 8) hx hb G.ws inX1 hown G.K hP 5 rfl rfl 0 (by decide) (G.w kw_248) (fun _ h9 => h9) rfl dX11_getKept_4 ?_
  refine va_get (D := g.1) (ci := 7) (v := .int 0) (C := RX3) (T := TX3) (N := 7) hx hb G.ws inX3 hown G.K hP 6 rfl rfl 6 (by decide) (G.w kw_249) (fun _ h9 => h9) rfl dX11_getKept_7 ?_
  exact kretI K hP hD hS [] [] rfl rfl (⟨rfl, rfl⟩) (by decide) (by decide) dX11_getKept_10

set_option maxHeartbeats 4000000 in
set_option maxRecDepth 100000 in
theorem m_X11_getNightShare (l : Launch) (hl0 : l.stackTraces = false) (g : kG) (h0 : Nat) (a1 : Nat) (a2 : Nat) (a3 : Nat) (a4 : Nat) (a5 : Nat) (k0 : Nat) (r0 : Nat) (b1 : Nat) (b2 : Nat) (b3 : Nat) (b4 : Nat) (b5 : Nat) (b6 : Nat) (b7 : Nat) (b8 : Nat) (b9 : Nat) (b10 : Nat)  : kc l g yX11_getNightShare prog_1_method_49_code 2 (some .float) 6 82 1 6 [.ref h0] [(h0, .inr (15, [.ref a1, .ref a2, .ref a3, .ref a4, .ref a5, .int 0, .int 0, .int 110, .int 0, .int 0, .int 0])), (a1, .inr (3, [.int 0, .ref g.2.1, .int 0])), (a2, .inr (3, [.int 0, .ref g.2.1, .int 0])), (a3, .inr (3, [.int 0, .ref g.2.1, .int 0])), (a4, .inr (3, [.int 0, .ref g.2.1, .int 0])), (a5, .inr (5, [.ref k0, .ref r0, .ref b1, .ref b2, .ref b3, .ref b4, .ref b5, .int 0])), (k0, .inr (7, [.ref b6, .ref b7, .ref b8, .ref b9, .ref b10, .int 0, .int 0])), (r0, .inr (3, [.int 0, .ref g.2.1, .int 0]))] (fun _ _ => False) (fun E w => (E = "java/lang/ArithmeticException" ∧ w = [])) := by
  refine kbody (by decide) (Nat.le_of_ble_eq_true rfl) ?_
  intro p e s m args below meth c A H K ht G hP hD hA hS ls hl
  have K : KB p s m meth c RX11 "getNightShare" prog_1_method_49_code 2 (some .float) := K
  obtain ⟨hx, hb, hml, hown, hlocks, hr, hin⟩ := id K
  have hl : lv_has ls 2 [(0, .ref h0)] := hl
  refine lv_aload_n hx hb dX11_getNightShare_0 rfl (lv_at hl 0 rfl) ?_
  refine va_get (D := g.1) (ci := 15) (v := .ref a5) (C := RX11) (T := TX11) (N := 11) hx hb G.ws inX11 hown G.K hP 0 rfl rfl 4 (by decide) (G.w kw_54) (fun _ h9 => h9) rfl dX11_getNightShare_1 ?_
  refine va_get (D := g.1) (ci := 5) (v := .ref k0) (C := RX1) (T := TX1) (N := 8) hx hb G.ws inX1 hown G.K hP 5 rfl rfl 0 (by decide) (G.w kw_248) (fun _ h9 => h9) rfl dX11_getNightShare_4 ?_
  refine va_get (D := g.1) (ci := 7) (v := .int 0) (C := RX3) (T := TX3) (N := 7) hx hb G.ws inX3 hown G.K hP 6 rfl rfl 6 (by decide) (G.w kw_249) (fun _ h9 => h9) rfl dX11_getNightShare_7 ?_
  refine lv_istore_n (lv' := [(1, .int 0), (0, .ref h0)]) hx hb dX11_getNightShare_10 rfl hl (by decide) rfl (fun ls hl => ?_)
  refine lv_iload_n hx hb dX11_getNightShare_11 rfl (lv_at hl 0 rfl) ?_
  refine lv_if_ne (tgt := 26) hx hb dX11_getNightShare_12 (by decide) (fun c12_1 => absurd c12_1 (by decide)) (fun _ => ?_)
  refine kthrowNewW (cls := "java/lang/ArithmeticException") (text := "no hours are kept") (names := ["java/lang/RuntimeException", "java/lang/Exception"]) (ik := 377) (ic := 381) (is := 379) hl0 K ht G hP hD hS hl (by decide +kernel) (by decide +kernel) kw_250 kw_251 (G.str (by decide +kernel)) at_X11_381 at_X11_381g dX11_getNightShare_15 dX11_getNightShare_18 dX11_getNightShare_19 dX11_getNightShare_22 dX11_getNightShare_25 (Nat.le_of_ble_eq_true rfl) (Nat.le_of_ble_eq_true rfl) (Nat.le_of_ble_eq_true rfl) (Nat.le_of_ble_eq_true rfl) [] [] rfl rfl (⟨rfl, rfl⟩) (by decide) (by decide)

set_option maxHeartbeats 4000000 in
set_option maxRecDepth 100000 in
theorem m_X11_getMeanCrew (l : Launch) (hl0 : l.stackTraces = false) (g : kG) (h0 : Nat) (a1 : Nat) (a2 : Nat) (a3 : Nat) (a4 : Nat) (a5 : Nat) (k0 : Nat) (r0 : Nat) (b1 : Nat) (b2 : Nat) (b3 : Nat) (b4 : Nat) (b5 : Nat) (b6 : Nat) (b7 : Nat) (b8 : Nat) (b9 : Nat) (b10 : Nat)  : kc l g yX11_getMeanCrew prog_1_method_50_code 2 (some .double) 6 82 1 6 [.ref h0] [(h0, .inr (15, [.ref a1, .ref a2, .ref a3, .ref a4, .ref a5, .int 0, .int 0, .int 110, .int 0, .int 0, .int 0])), (a1, .inr (3, [.int 0, .ref g.2.1, .int 0])), (a2, .inr (3, [.int 0, .ref g.2.1, .int 0])), (a3, .inr (3, [.int 0, .ref g.2.1, .int 0])), (a4, .inr (3, [.int 0, .ref g.2.1, .int 0])), (a5, .inr (5, [.ref k0, .ref r0, .ref b1, .ref b2, .ref b3, .ref b4, .ref b5, .int 0])), (k0, .inr (7, [.ref b6, .ref b7, .ref b8, .ref b9, .ref b10, .int 0, .int 0])), (r0, .inr (3, [.int 0, .ref g.2.1, .int 0]))] (fun _ _ => False) (fun E w => (E = "java/lang/ArithmeticException" ∧ w = [])) := by
  refine kbody (by decide) (Nat.le_of_ble_eq_true rfl) ?_
  intro p e s m args below meth c A H K ht G hP hD hA hS ls hl
  have K : KB p s m meth c RX11 "getMeanCrew" prog_1_method_50_code 2 (some .double) := K
  obtain ⟨hx, hb, hml, hown, hlocks, hr, hin⟩ := id K
  have hl : lv_has ls 2 [(0, .ref h0)] := hl
  refine lv_aload_n hx hb dX11_getMeanCrew_0 rfl (lv_at hl 0 rfl) ?_
  refine va_get (D := g.1) (ci := 15) (v := .ref a3) (C := RX11) (T := TX11) (N := 11) hx hb G.ws inX11 hown G.K hP 0 rfl rfl 2 (by decide) (G.w kw_52) (fun _ h9 => h9) rfl dX11_getMeanCrew_1 ?_
  refine kcallV (wc := [(a3, .inr (3, [.int 0, .ref g.2.1, .int 0]))]) (wr := [(h0, .inr (15, [.ref a1, .ref a2, .ref a3, .ref a4, .ref a5, .int 0, .int 0, .int 110, .int 0, .int 0, .int 0])), (a1, .inr (3, [.int 0, .ref g.2.1, .int 0])), (a2, .inr (3, [.int 0, .ref g.2.1, .int 0])), (a4, .inr (3, [.int 0, .ref g.2.1, .int 0])), (a5, .inr (5, [.ref k0, .ref r0, .ref b1, .ref b2, .ref b3, .ref b4, .ref b5, .int 0])), (k0, .inr (7, [.ref b6, .ref b7, .ref b8, .ref b9, .ref b10, .int 0, .int 0])), (r0, .inr (3, [.int 0, .ref g.2.1, .int 0]))]) (As := []) (rest := []) K G (m_Jx4a65c_size_8abf5 l hl0 g a3 0 g.2.1 0 ) hP hD hS hA hl kw_44 kw_45 kw_46 kw_47 kw_30 ydJx4a65c_size_8abf5 [3] [0, 1, 2, 4, 5, 6, 7] rfl rfl rfl rfl (by decide) (ci := 3) (q0 := 3) rfl rfl rfl rfl rfl (Nat.le_of_ble_eq_true rfl) dX11_getMeanCrew_4 ⟨Nat.le_of_ble_eq_true rfl, Nat.le_of_ble_eq_true rfl⟩ ⟨Nat.le_of_ble_eq_true rfl, Nat.le_of_ble_eq_true rfl⟩ (fun _ _ _ _ _ _ hX _ _ _ _ _ _ => hX.elim) (fun v w1 H locs hQ hP hD hS => ?_)
  obtain ⟨rfl, rfl⟩ := hQ
  have hP : va_P g.1 vwCl [(h0, .inr (15, [.ref a1, .ref a2, .ref a3, .ref a4, .ref a5, .int 0, .int 0, .int 110, .int 0, .int 0, .int 0])), (a1, .inr (3, [.int 0, .ref g.2.1, .int 0])), (a2, .inr (3, [.int 0, .ref g.2.1, .int 0])), (a4, .inr (3, [.int 0, .ref g.2.1, .int 0])), (a5, .inr (5, [.ref k0, .ref r0, .ref b1, .ref b2, .ref b3, .ref b4, .ref b5, .int 0])), (k0, .inr (7, [.ref b6, .ref b7, .ref b8, .ref b9, .ref b10, .int 0, .int 0])), (r0, .inr (3, [.int 0, .ref g.2.1, .int 0])), (a3, .inr (3, [.int 0, .ref g.2.1, .int 0]))] H := hP
  have hD : va_D A [(h0, .inr (15, [.ref a1, .ref a2, .ref a3, .ref a4, .ref a5, .int 0, .int 0, .int 110, .int 0, .int 0, .int 0])), (a1, .inr (3, [.int 0, .ref g.2.1, .int 0])), (a2, .inr (3, [.int 0, .ref g.2.1, .int 0])), (a4, .inr (3, [.int 0, .ref g.2.1, .int 0])), (a5, .inr (5, [.ref k0, .ref r0, .ref b1, .ref b2, .ref b3, .ref b4, .ref b5, .int 0])), (k0, .inr (7, [.ref b6, .ref b7, .ref b8, .ref b9, .ref b10, .int 0, .int 0])), (r0, .inr (3, [.int 0, .ref g.2.1, .int 0])), (a3, .inr (3, [.int 0, .ref g.2.1, .int 0]))] := hD
  refine W.widen (k := 0) (n := 0) (by decide) (by decide) ?_
  refine W.eq (g2 := F0 m 7 ls [.int 0]) rfl ?_
  refine lv_istore_n (lv' := [(1, .int 0), (0, .ref h0)]) hx hb dX11_getMeanCrew_7 rfl hl (by decide) rfl (fun ls hl => ?_)
  refine lv_iload_n hx hb dX11_getMeanCrew_8 rfl (lv_at hl 0 rfl) ?_
  refine lv_if_ne (tgt := 23) hx hb dX11_getMeanCrew_9 (by decide) (fun c9_2 => absurd c9_2 (by decide)) (fun _ => ?_)
  refine kthrowNewW (cls := "java/lang/ArithmeticException") (text := "there are no ships") (names := ["java/lang/RuntimeException", "java/lang/Exception"]) (ik := 377) (ic := 381) (is := 385) hl0 K ht G hP hD hS hl (by decide +kernel) (by decide +kernel) kw_250 kw_251 (G.str (by decide +kernel)) at_X11_381 at_X11_381g dX11_getMeanCrew_12 dX11_getMeanCrew_15 dX11_getMeanCrew_16 dX11_getMeanCrew_19 dX11_getMeanCrew_22 (Nat.le_of_ble_eq_true rfl) (Nat.le_of_ble_eq_true rfl) (Nat.le_of_ble_eq_true rfl) (Nat.le_of_ble_eq_true rfl) [] [] rfl rfl (⟨rfl, rfl⟩) (by decide) (by decide)

set_option maxHeartbeats 4000000 in
set_option maxRecDepth 100000 in
theorem m_X11_checksum (l : Launch) (hl0 : l.stackTraces = false) (g : kG) (h0 : Nat) (a1 : Nat) (a2 : Nat) (a3 : Nat) (a4 : Nat) (a5 : Nat) (k0 : Nat) (r0 : Nat) (b1 : Nat) (b2 : Nat) (b3 : Nat) (b4 : Nat) (b5 : Nat) (b6 : Nat) (b7 : Nat) (b8 : Nat) (b9 : Nat) (b10 : Nat)  : kc l g yX11_checksum prog_1_method_51_code 5 (some .long) 1 20 0 0 [.ref h0] [(h0, .inr (15, [.ref a1, .ref a2, .ref a3, .ref a4, .ref a5, .int 0, .int 0, .int 110, .int 0, .int 0, .int 0])), (a1, .inr (3, [.int 0, .ref g.2.1, .int 0])), (a2, .inr (3, [.int 0, .ref g.2.1, .int 0])), (a3, .inr (3, [.int 0, .ref g.2.1, .int 0])), (a4, .inr (3, [.int 0, .ref g.2.1, .int 0])), (a5, .inr (5, [.ref k0, .ref r0, .ref b1, .ref b2, .ref b3, .ref b4, .ref b5, .int 0])), (k0, .inr (7, [.ref b6, .ref b7, .ref b8, .ref b9, .ref b10, .int 0, .int 0])), (r0, .inr (3, [.int 0, .ref g.2.1, .int 0]))] (fun v w => (v = some (.long 6727) ∧ w = [])) (fun _ _ => False) := by
  refine kbody (by decide) (Nat.le_of_ble_eq_true rfl) ?_
  intro p e s m args below meth c A H K ht G hP hD hA hS ls hl
  have K : KB p s m meth c RX11 "checksum" prog_1_method_51_code 5 (some .long) := K
  obtain ⟨hx, hb, hml, hown, hlocks, hr, hin⟩ := id K
  have hl : lv_has ls 5 [(0, .ref h0)] := hl
  refine lv_ldc2 (v := 7) hx hb hown (G.w kw_252) dX11_checksum_0 ?_
  refine lv_lstore_n (lv' := [(1, .long 7), (0, .ref h0)]) hx hb dX11_checksum_3 rfl hl (by decide) rfl (fun ls hl => ?_)
  refine lv_iconst (v := 0) hx hb dX11_checksum_4 (by decide) ?_
  refine lv_istore_n (lv' := [(3, .int 0), (1, .long 7), (0, .ref h0)]) hx hb dX11_checksum_5 rfl hl (by decide) rfl (fun ls hl => ?_)
  refine lv_iload_n hx hb dX11_checksum_6 rfl (lv_at hl 0 rfl) ?_
  refine lv_aload_n hx hb dX11_checksum_7 rfl (lv_at hl 2 rfl) ?_
  refine va_get (D := g.1) (ci := 15) (v := .ref a3) (C := RX11) (T := TX11) (N := 11) hx hb G.ws inX11 hown G.K hP 0 rfl rfl 2 (by decide) (G.w kw_52) (fun _ h9 => h9) rfl dX11_checksum_8 ?_
  refine kcallV (wc := [(a3, .inr (3, [.int 0, .ref g.2.1, .int 0]))]) (wr := [(h0, .inr (15, [.ref a1, .ref a2, .ref a3, .ref a4, .ref a5, .int 0, .int 0, .int 110, .int 0, .int 0, .int 0])), (a1, .inr (3, [.int 0, .ref g.2.1, .int 0])), (a2, .inr (3, [.int 0, .ref g.2.1, .int 0])), (a4, .inr (3, [.int 0, .ref g.2.1, .int 0])), (a5, .inr (5, [.ref k0, .ref r0, .ref b1, .ref b2, .ref b3, .ref b4, .ref b5, .int 0])), (k0, .inr (7, [.ref b6, .ref b7, .ref b8, .ref b9, .ref b10, .int 0, .int 0])), (r0, .inr (3, [.int 0, .ref g.2.1, .int 0]))]) (As := []) (rest := [.int 0]) K G (m_Jx4a65c_size_8abf5 l hl0 g a3 0 g.2.1 0 ) hP hD hS hA hl kw_44 kw_45 kw_46 kw_47 kw_30 ydJx4a65c_size_8abf5 [3] [0, 1, 2, 4, 5, 6, 7] rfl rfl rfl rfl (by decide) (ci := 3) (q0 := 3) rfl rfl rfl rfl rfl (Nat.le_of_ble_eq_true rfl) dX11_checksum_11 ⟨Nat.le_of_ble_eq_true rfl, Nat.le_of_ble_eq_true rfl⟩ ⟨Nat.le_of_ble_eq_true rfl, Nat.le_of_ble_eq_true rfl⟩ (fun _ _ _ _ _ _ hX _ _ _ _ _ _ => hX.elim) (fun v w1 H locs hQ hP hD hS => ?_)
  obtain ⟨rfl, rfl⟩ := hQ
  have hP : va_P g.1 vwCl [(h0, .inr (15, [.ref a1, .ref a2, .ref a3, .ref a4, .ref a5, .int 0, .int 0, .int 110, .int 0, .int 0, .int 0])), (a1, .inr (3, [.int 0, .ref g.2.1, .int 0])), (a2, .inr (3, [.int 0, .ref g.2.1, .int 0])), (a4, .inr (3, [.int 0, .ref g.2.1, .int 0])), (a5, .inr (5, [.ref k0, .ref r0, .ref b1, .ref b2, .ref b3, .ref b4, .ref b5, .int 0])), (k0, .inr (7, [.ref b6, .ref b7, .ref b8, .ref b9, .ref b10, .int 0, .int 0])), (r0, .inr (3, [.int 0, .ref g.2.1, .int 0])), (a3, .inr (3, [.int 0, .ref g.2.1, .int 0]))] H := hP
  have hD : va_D A [(h0, .inr (15, [.ref a1, .ref a2, .ref a3, .ref a4, .ref a5, .int 0, .int 0, .int 110, .int 0, .int 0, .int 0])), (a1, .inr (3, [.int 0, .ref g.2.1, .int 0])), (a2, .inr (3, [.int 0, .ref g.2.1, .int 0])), (a4, .inr (3, [.int 0, .ref g.2.1, .int 0])), (a5, .inr (5, [.ref k0, .ref r0, .ref b1, .ref b2, .ref b3, .ref b4, .ref b5, .int 0])), (k0, .inr (7, [.ref b6, .ref b7, .ref b8, .ref b9, .ref b10, .int 0, .int 0])), (r0, .inr (3, [.int 0, .ref g.2.1, .int 0])), (a3, .inr (3, [.int 0, .ref g.2.1, .int 0]))] := hD
  refine W.widen (k := 0) (n := 0) (by decide) (by decide) ?_
  refine W.eq (g2 := F0 m 14 ls [.int 0, .int 0]) rfl ?_
  refine lv_icmp_ge (tgt := 104) hx hb dX11_checksum_14 (by decide) (fun _ => ?_) (fun c14_2 => absurd c14_2 (by decide))
  refine lv_ldc2 (v := 31) hx hb hown (G.w kw_253) dX11_checksum_104 ?_
  refine lv_lload_n hx hb dX11_checksum_107 rfl (lv_at hl 1 rfl) ?_
  refine lv_lmul hx hb dX11_checksum_108 ?_
  refine lv_topl (fun y_3 ey_3 => ?_)
  obtain rfl : y_3 = 217 := ey_3.trans (by decide)
  refine lv_aload_n hx hb dX11_checksum_109 rfl (lv_at hl 2 rfl) ?_
  refine va_get (D := g.1) (ci := 15) (v := .int 0) (C := RX11) (T := TX11) (N := 11) hx hb G.ws inX11 hown G.K hP 0 rfl rfl 10 (by decide) (G.w kw_64) (fun _ h9 => h9) rfl dX11_checksum_110 ?_
  refine lv_i2l (v := 0) hx hb dX11_checksum_113 (by decide) ?_
  refine lv_ladd hx hb dX11_checksum_114 ?_
  refine lv_topl (fun y_4 ey_4 => ?_)
  obtain rfl : y_4 = 217 := ey_4.trans (by decide)
  refine lv_lstore_n (lv' := [(1, .long 217), (3, .int 0), (0, .ref h0)]) hx hb dX11_checksum_115 rfl hl (by decide) rfl (fun ls hl => ?_)
  refine lv_ldc2 (v := 31) hx hb hown (G.w kw_253) dX11_checksum_116 ?_
  refine lv_lload_n hx hb dX11_checksum_119 rfl (lv_at hl 0 rfl) ?_
  refine lv_lmul hx hb dX11_checksum_120 ?_
  refine lv_topl (fun y_5 ey_5 => ?_)
  obtain rfl : y_5 = 6727 := ey_5.trans (by decide)
  refine lv_aload_n hx hb dX11_checksum_121 rfl (lv_at hl 2 rfl) ?_
  refine va_get (D := g.1) (ci := 15) (v := .int 0) (C := RX11) (T := TX11) (N := 11) hx hb G.ws inX11 hown G.K hP 0 rfl rfl 5 (by decide) (G.w kw_114) (fun _ h9 => h9) rfl dX11_checksum_122 ?_
  refine lv_i2l (v := 0) hx hb dX11_checksum_125 (by decide) ?_
  refine lv_ladd hx hb dX11_checksum_126 ?_
  refine lv_topl (fun y_6 ey_6 => ?_)
  obtain rfl : y_6 = 6727 := ey_6.trans (by decide)
  exact kretL K hP hD hS [] [] rfl rfl (⟨rfl, rfl⟩) (by decide) (by decide) dX11_checksum_127

set_option maxHeartbeats 4000000 in
set_option maxRecDepth 100000 in
theorem m_X11_areKeptHoursSound (l : Launch) (hl0 : l.stackTraces = false) (g : kG) (h0 : Nat) (a1 : Nat) (a2 : Nat) (a3 : Nat) (a4 : Nat) (a5 : Nat) (k0 : Nat) (r0 : Nat) (b1 : Nat) (b2 : Nat) (b3 : Nat) (b4 : Nat) (b5 : Nat) (b6 : Nat) (b7 : Nat) (b8 : Nat) (b9 : Nat) (b10 : Nat)  : kc l g yX11_areKeptHoursSound prog_1_method_99_code 2 (some .boolean) 0 0 0 0 [.ref h0] [(h0, .inr (15, [.ref a1, .ref a2, .ref a3, .ref a4, .ref a5, .int 0, .int 0, .int 110, .int 0, .int 0, .int 0])), (a1, .inr (3, [.int 0, .ref g.2.1, .int 0])), (a2, .inr (3, [.int 0, .ref g.2.1, .int 0])), (a3, .inr (3, [.int 0, .ref g.2.1, .int 0])), (a4, .inr (3, [.int 0, .ref g.2.1, .int 0])), (a5, .inr (5, [.ref k0, .ref r0, .ref b1, .ref b2, .ref b3, .ref b4, .ref b5, .int 0])), (k0, .inr (7, [.ref b6, .ref b7, .ref b8, .ref b9, .ref b10, .int 0, .int 0])), (r0, .inr (3, [.int 0, .ref g.2.1, .int 0]))] (fun v w => (v = some (.int 1) ∧ w = [(h0, .inr (15, [.ref a1, .ref a2, .ref a3, .ref a4, .ref a5, .int 0, .int 0, .int 110, .int 0, .int 0, .int 0])), (a1, .inr (3, [.int 0, .ref g.2.1, .int 0])), (a2, .inr (3, [.int 0, .ref g.2.1, .int 0])), (a3, .inr (3, [.int 0, .ref g.2.1, .int 0])), (a4, .inr (3, [.int 0, .ref g.2.1, .int 0])), (a5, .inr (5, [.ref k0, .ref r0, .ref b1, .ref b2, .ref b3, .ref b4, .ref b5, .int 0])), (k0, .inr (7, [.ref b6, .ref b7, .ref b8, .ref b9, .ref b10, .int 0, .int 0])), (r0, .inr (3, [.int 0, .ref g.2.1, .int 0]))])) (fun _ _ => False) := by
  refine kbody (by decide) (Nat.le_of_ble_eq_true rfl) ?_
  intro p e s m args below meth c A H K ht G hP hD hA hS ls hl
  have K : KB p s m meth c RX11 "areKeptHoursSound" prog_1_method_99_code 2 (some .boolean) := K
  obtain ⟨hx, hb, hml, hown, hlocks, hr, hin⟩ := id K
  have hl : lv_has ls 2 [(0, .ref h0)] := hl
  refine lv_iconst (v := 0) hx hb dX11_areKeptHoursSound_0 (by decide) ?_
  refine lv_istore_n (lv' := [(1, .int 0), (0, .ref h0)]) hx hb dX11_areKeptHoursSound_1 rfl hl (by decide) rfl (fun ls hl => ?_)
  refine lv_iload_n hx hb dX11_areKeptHoursSound_2 rfl (lv_at hl 0 rfl) ?_
  refine lv_aload_n hx hb dX11_areKeptHoursSound_3 rfl (lv_at hl 1 rfl) ?_
  refine va_get (D := g.1) (ci := 15) (v := .ref a5) (C := RX11) (T := TX11) (N := 11) hx hb G.ws inX11 hown G.K hP 0 rfl rfl 4 (by decide) (G.w kw_54) (fun _ h9 => h9) rfl dX11_areKeptHoursSound_4 ?_
  refine va_get (D := g.1) (ci := 5) (v := .ref k0) (C := RX1) (T := TX1) (N := 8) hx hb G.ws inX1 hown G.K hP 5 rfl rfl 0 (by decide) (G.w kw_248) (fun _ h9 => h9) rfl dX11_areKeptHoursSound_7 ?_
  refine va_get (D := g.1) (ci := 7) (v := .int 0) (C := RX3) (T := TX3) (N := 7) hx hb G.ws inX3 hown G.K hP 6 rfl rfl 6 (by decide) (G.w kw_249) (fun _ h9 => h9) rfl dX11_areKeptHoursSound_10 ?_
  refine lv_icmp_ge (tgt := 49) hx hb dX11_areKeptHoursSound_13 (by decide) (fun _ => ?_) (fun c13_1 => absurd c13_1 (by decide))
  refine lv_iconst (v := 1) hx hb dX11_areKeptHoursSound_49 (by decide) ?_
  exact kretZ K hP hD hS [0, 1, 2, 3, 4, 5, 6, 7] [(h0, .inr (15, [.ref a1, .ref a2, .ref a3, .ref a4, .ref a5, .int 0, .int 0, .int 110, .int 0, .int 0, .int 0])), (a1, .inr (3, [.int 0, .ref g.2.1, .int 0])), (a2, .inr (3, [.int 0, .ref g.2.1, .int 0])), (a3, .inr (3, [.int 0, .ref g.2.1, .int 0])), (a4, .inr (3, [.int 0, .ref g.2.1, .int 0])), (a5, .inr (5, [.ref k0, .ref r0, .ref b1, .ref b2, .ref b3, .ref b4, .ref b5, .int 0])), (k0, .inr (7, [.ref b6, .ref b7, .ref b8, .ref b9, .ref b10, .int 0, .int 0])), (r0, .inr (3, [.int 0, .ref g.2.1, .int 0]))] rfl rfl (⟨rfl, rfl⟩) (by decide) (by decide) dX11_areKeptHoursSound_50

set_option maxHeartbeats 4000000 in
set_option maxRecDepth 100000 in
theorem m_X1_areDatesAsOrdersTell (l : Launch) (hl0 : l.stackTraces = false) (g : kG) (a5 : Nat) (k0 : Nat) (r0 : Nat) (b1 : Nat) (b2 : Nat) (b3 : Nat) (b4 : Nat) (b5 : Nat) (b1 : Nat) (b2 : Nat) (b3 : Nat) (b4 : Nat) (b5 : Nat)  : kc l g yX1_areDatesAsOrdersTell prog_3_method_16_code 2 (some .boolean) 1 20 0 0 [.ref a5] [(a5, .inr (5, [.ref k0, .ref r0, .ref b1, .ref b2, .ref b3, .ref b4, .ref b5, .int 0])), (r0, .inr (3, [.int 0, .ref g.2.1, .int 0]))] (fun v w => (v = some (.int 1) ∧ w = [(a5, .inr (5, [.ref k0, .ref r0, .ref b1, .ref b2, .ref b3, .ref b4, .ref b5, .int 0])), (r0, .inr (3, [.int 0, .ref g.2.1, .int 0]))])) (fun _ _ => False) := by
  refine kbody (by decide) (Nat.le_of_ble_eq_true rfl) ?_
  intro p e s m args below meth c A H K ht G hP hD hA hS ls hl
  have K : KB p s m meth c RX1 "areDatesAsOrdersTell" prog_3_method_16_code 2 (some .boolean) := K
  obtain ⟨hx, hb, hml, hown, hlocks, hr, hin⟩ := id K
  have hl : lv_has ls 2 [(0, .ref a5)] := hl
  refine lv_aload_n hx hb dX1_areDatesAsOrdersTell_0 rfl (lv_at hl 0 rfl) ?_
  refine va_get (D := g.1) (ci := 5) (v := .ref r0) (C := RX1) (T := TX1) (N := 8) hx hb G.ws inX1 hown G.K hP 0 rfl rfl 1 (by decide) (G.w kw_187) (fun _ h9 => h9) rfl dX1_areDatesAsOrdersTell_1 ?_
  refine kcallV (wc := [(r0, .inr (3, [.int 0, .ref g.2.1, .int 0]))]) (wr := [(a5, .inr (5, [.ref k0, .ref r0, .ref b1, .ref b2, .ref b3, .ref b4, .ref b5, .int 0]))]) (As := []) (rest := []) K G (m_Jx4a65c_size_8abf5 l hl0 g r0 0 g.2.1 0 ) hP hD hS hA hl kw_44 kw_254 kw_46 kw_47 kw_30 ydJx4a65c_size_8abf5 [1] [0] rfl rfl rfl rfl (by decide) (ci := 3) (q0 := 1) rfl rfl rfl rfl rfl (Nat.le_of_ble_eq_true rfl) dX1_areDatesAsOrdersTell_4 ⟨Nat.le_of_ble_eq_true rfl, Nat.le_of_ble_eq_true rfl⟩ ⟨Nat.le_of_ble_eq_true rfl, Nat.le_of_ble_eq_true rfl⟩ (fun _ _ _ _ _ _ hX _ _ _ _ _ _ => hX.elim) (fun v w1 H locs hQ hP hD hS => ?_)
  obtain ⟨rfl, rfl⟩ := hQ
  have hP : va_P g.1 vwCl [(a5, .inr (5, [.ref k0, .ref r0, .ref b1, .ref b2, .ref b3, .ref b4, .ref b5, .int 0])), (r0, .inr (3, [.int 0, .ref g.2.1, .int 0]))] H := hP
  have hD : va_D A [(a5, .inr (5, [.ref k0, .ref r0, .ref b1, .ref b2, .ref b3, .ref b4, .ref b5, .int 0])), (r0, .inr (3, [.int 0, .ref g.2.1, .int 0]))] := hD
  refine W.widen (k := 0) (n := 0) (by decide) (by decide) ?_
  refine W.eq (g2 := F0 m 7 ls [.int 0]) rfl ?_
  refine lv_iconst (v := 4) hx hb dX1_areDatesAsOrdersTell_7 (by decide) ?_
  refine lv_icmp_le (tgt := 13) hx hb dX1_areDatesAsOrdersTell_8 (by decide) (fun _ => ?_) (fun c8_2 => absurd c8_2 (by decide))
  refine lv_iconst (v := 0) hx hb dX1_areDatesAsOrdersTell_13 (by decide) ?_
  refine lv_istore_n (lv' := [(1, .int 0), (0, .ref a5)]) hx hb dX1_areDatesAsOrdersTell_14 rfl hl (by decide) rfl (fun ls hl => ?_)
  refine lv_iload_n hx hb dX1_areDatesAsOrdersTell_15 rfl (lv_at hl 0 rfl) ?_
  refine lv_aload_n hx hb dX1_areDatesAsOrdersTell_16 rfl (lv_at hl 1 rfl) ?_
  refine va_get (D := g.1) (ci := 5) (v := .ref r0) (C := RX1) (T := TX1) (N := 8) hx hb G.ws inX1 hown G.K hP 0 rfl rfl 1 (by decide) (G.w kw_187) (fun _ h9 => h9) rfl dX1_areDatesAsOrdersTell_17 ?_
  refine kcallV (wc := [(r0, .inr (3, [.int 0, .ref g.2.1, .int 0]))]) (wr := [(a5, .inr (5, [.ref k0, .ref r0, .ref b1, .ref b2, .ref b3, .ref b4, .ref b5, .int 0]))]) (As := []) (rest := [.int 0]) K G (m_Jx4a65c_size_8abf5 l hl0 g r0 0 g.2.1 0 ) hP hD hS hA hl kw_44 kw_254 kw_46 kw_47 kw_30 ydJx4a65c_size_8abf5 [1] [0] rfl rfl rfl rfl (by decide) (ci := 3) (q0 := 1) rfl rfl rfl rfl rfl (Nat.le_of_ble_eq_true rfl) dX1_areDatesAsOrdersTell_20 ⟨Nat.le_of_ble_eq_true rfl, Nat.le_of_ble_eq_true rfl⟩ ⟨Nat.le_of_ble_eq_true rfl, Nat.le_of_ble_eq_true rfl⟩ (fun _ _ _ _ _ _ hX _ _ _ _ _ _ => hX.elim) (fun v w1 H locs hQ hP hD hS => ?_)
  obtain ⟨rfl, rfl⟩ := hQ
  have hP : va_P g.1 vwCl [(a5, .inr (5, [.ref k0, .ref r0, .ref b1, .ref b2, .ref b3, .ref b4, .ref b5, .int 0])), (r0, .inr (3, [.int 0, .ref g.2.1, .int 0]))] H := hP
  have hD : va_D A [(a5, .inr (5, [.ref k0, .ref r0, .ref b1, .ref b2, .ref b3, .ref b4, .ref b5, .int 0])), (r0, .inr (3, [.int 0, .ref g.2.1, .int 0]))] := hD
  refine W.widen (k := 0) (n := 0) (by decide) (by decide) ?_
  refine W.eq (g2 := F0 m 23 ls [.int 0, .int 0]) rfl ?_
  refine lv_icmp_ge (tgt := 64) hx hb dX1_areDatesAsOrdersTell_23 (by decide) (fun _ => ?_) (fun c23_4 => absurd c23_4 (by decide))
  refine lv_iconst (v := 1) hx hb dX1_areDatesAsOrdersTell_64 (by decide) ?_
  exact kretZ K hP hD hS [0, 1] [(a5, .inr (5, [.ref k0, .ref r0, .ref b1, .ref b2, .ref b3, .ref b4, .ref b5, .int 0])), (r0, .inr (3, [.int 0, .ref g.2.1, .int 0]))] rfl rfl (⟨rfl, rfl⟩) (by decide) (by decide) dX1_areDatesAsOrdersTell_65

set_option maxHeartbeats 4000000 in
set_option maxRecDepth 100000 in
theorem m_X11_countAboard (l : Launch) (hl0 : l.stackTraces = false) (g : kG) (h0 : Nat) (a1 : Nat) (a2 : Nat) (a3 : Nat) (a4 : Nat) (a5 : Nat) (k0 : Nat) (r0 : Nat) (b1 : Nat) (b2 : Nat) (b3 : Nat) (b4 : Nat) (b5 : Nat) (b6 : Nat) (b7 : Nat) (b8 : Nat) (b9 : Nat) (b10 : Nat)  : kc l g yX11_countAboard prog_1_method_95_code 3 (some .int) 1 20 0 0 [.ref h0] [(h0, .inr (15, [.ref a1, .ref a2, .ref a3, .ref a4, .ref a5, .int 0, .int 0, .int 110, .int 0, .int 0, .int 0])), (a1, .inr (3, [.int 0, .ref g.2.1, .int 0])), (a2, .inr (3, [.int 0, .ref g.2.1, .int 0])), (a3, .inr (3, [.int 0, .ref g.2.1, .int 0])), (a4, .inr (3, [.int 0, .ref g.2.1, .int 0])), (a5, .inr (5, [.ref k0, .ref r0, .ref b1, .ref b2, .ref b3, .ref b4, .ref b5, .int 0])), (k0, .inr (7, [.ref b6, .ref b7, .ref b8, .ref b9, .ref b10, .int 0, .int 0])), (r0, .inr (3, [.int 0, .ref g.2.1, .int 0]))] (fun v w => (v = some (.int 0) ∧ w = [(h0, .inr (15, [.ref a1, .ref a2, .ref a3, .ref a4, .ref a5, .int 0, .int 0, .int 110, .int 0, .int 0, .int 0])), (a1, .inr (3, [.int 0, .ref g.2.1, .int 0])), (a2, .inr (3, [.int 0, .ref g.2.1, .int 0])), (a3, .inr (3, [.int 0, .ref g.2.1, .int 0])), (a4, .inr (3, [.int 0, .ref g.2.1, .int 0])), (a5, .inr (5, [.ref k0, .ref r0, .ref b1, .ref b2, .ref b3, .ref b4, .ref b5, .int 0])), (k0, .inr (7, [.ref b6, .ref b7, .ref b8, .ref b9, .ref b10, .int 0, .int 0])), (r0, .inr (3, [.int 0, .ref g.2.1, .int 0]))])) (fun _ _ => False) := by
  refine kbody (by decide) (Nat.le_of_ble_eq_true rfl) ?_
  intro p e s m args below meth c A H K ht G hP hD hA hS ls hl
  have K : KB p s m meth c RX11 "countAboard" prog_1_method_95_code 3 (some .int) := K
  obtain ⟨hx, hb, hml, hown, hlocks, hr, hin⟩ := id K
  have hl : lv_has ls 3 [(0, .ref h0)] := hl
  refine lv_iconst (v := 0) hx hb dX11_countAboard_0 (by decide) ?_
  refine lv_istore_n (lv' := [(1, .int 0), (0, .ref h0)]) hx hb dX11_countAboard_1 rfl hl (by decide) rfl (fun ls hl => ?_)
  refine lv_iconst (v := 0) hx hb dX11_countAboard_2 (by decide) ?_
  refine lv_istore_n (lv' := [(2, .int 0), (1, .int 0), (0, .ref h0)]) hx hb dX11_countAboard_3 rfl hl (by decide) rfl (fun ls hl => ?_)
  refine lv_iload_n hx hb dX11_countAboard_4 rfl (lv_at hl 0 rfl) ?_
  refine lv_aload_n hx hb dX11_countAboard_5 rfl (lv_at hl 2 rfl) ?_
  refine va_get (D := g.1) (ci := 15) (v := .ref a4) (C := RX11) (T := TX11) (N := 11) hx hb G.ws inX11 hown G.K hP 0 rfl rfl 3 (by decide) (G.w kw_53) (fun _ h9 => h9) rfl dX11_countAboard_6 ?_
  refine kcallV (wc := [(a4, .inr (3, [.int 0, .ref g.2.1, .int 0]))]) (wr := [(h0, .inr (15, [.ref a1, .ref a2, .ref a3, .ref a4, .ref a5, .int 0, .int 0, .int 110, .int 0, .int 0, .int 0])), (a1, .inr (3, [.int 0, .ref g.2.1, .int 0])), (a2, .inr (3, [.int 0, .ref g.2.1, .int 0])), (a3, .inr (3, [.int 0, .ref g.2.1, .int 0])), (a5, .inr (5, [.ref k0, .ref r0, .ref b1, .ref b2, .ref b3, .ref b4, .ref b5, .int 0])), (k0, .inr (7, [.ref b6, .ref b7, .ref b8, .ref b9, .ref b10, .int 0, .int 0])), (r0, .inr (3, [.int 0, .ref g.2.1, .int 0]))]) (As := []) (rest := [.int 0]) K G (m_Jx4a65c_size_8abf5 l hl0 g a4 0 g.2.1 0 ) hP hD hS hA hl kw_44 kw_45 kw_46 kw_47 kw_30 ydJx4a65c_size_8abf5 [4] [0, 1, 2, 3, 5, 6, 7] rfl rfl rfl rfl (by decide) (ci := 3) (q0 := 4) rfl rfl rfl rfl rfl (Nat.le_of_ble_eq_true rfl) dX11_countAboard_9 ⟨Nat.le_of_ble_eq_true rfl, Nat.le_of_ble_eq_true rfl⟩ ⟨Nat.le_of_ble_eq_true rfl, Nat.le_of_ble_eq_true rfl⟩ (fun _ _ _ _ _ _ hX _ _ _ _ _ _ => hX.elim) (fun v w1 H locs hQ hP hD hS => ?_)
  obtain ⟨rfl, rfl⟩ := hQ
  have hP : va_P g.1 vwCl [(h0, .inr (15, [.ref a1, .ref a2, .ref a3, .ref a4, .ref a5, .int 0, .int 0, .int 110, .int 0, .int 0, .int 0])), (a1, .inr (3, [.int 0, .ref g.2.1, .int 0])), (a2, .inr (3, [.int 0, .ref g.2.1, .int 0])), (a3, .inr (3, [.int 0, .ref g.2.1, .int 0])), (a5, .inr (5, [.ref k0, .ref r0, .ref b1, .ref b2, .ref b3, .ref b4, .ref b5, .int 0])), (k0, .inr (7, [.ref b6, .ref b7, .ref b8, .ref b9, .ref b10, .int 0, .int 0])), (r0, .inr (3, [.int 0, .ref g.2.1, .int 0])), (a4, .inr (3, [.int 0, .ref g.2.1, .int 0]))] H := hP
  have hD : va_D A [(h0, .inr (15, [.ref a1, .ref a2, .ref a3, .ref a4, .ref a5, .int 0, .int 0, .int 110, .int 0, .int 0, .int 0])), (a1, .inr (3, [.int 0, .ref g.2.1, .int 0])), (a2, .inr (3, [.int 0, .ref g.2.1, .int 0])), (a3, .inr (3, [.int 0, .ref g.2.1, .int 0])), (a5, .inr (5, [.ref k0, .ref r0, .ref b1, .ref b2, .ref b3, .ref b4, .ref b5, .int 0])), (k0, .inr (7, [.ref b6, .ref b7, .ref b8, .ref b9, .ref b10, .int 0, .int 0])), (r0, .inr (3, [.int 0, .ref g.2.1, .int 0])), (a4, .inr (3, [.int 0, .ref g.2.1, .int 0]))] := hD
  refine W.widen (k := 0) (n := 0) (by decide) (by decide) ?_
  refine W.eq (g2 := F0 m 12 ls [.int 0, .int 0]) rfl ?_
  refine lv_icmp_ge (tgt := 42) hx hb dX11_countAboard_12 (by decide) (fun _ => ?_) (fun c12_2 => absurd c12_2 (by decide))
  refine lv_iload_n hx hb dX11_countAboard_42 rfl (lv_at hl 1 rfl) ?_
  exact kretI K hP hD hS [0, 1, 2, 3, 7, 4, 5, 6] [(h0, .inr (15, [.ref a1, .ref a2, .ref a3, .ref a4, .ref a5, .int 0, .int 0, .int 110, .int 0, .int 0, .int 0])), (a1, .inr (3, [.int 0, .ref g.2.1, .int 0])), (a2, .inr (3, [.int 0, .ref g.2.1, .int 0])), (a3, .inr (3, [.int 0, .ref g.2.1, .int 0])), (a4, .inr (3, [.int 0, .ref g.2.1, .int 0])), (a5, .inr (5, [.ref k0, .ref r0, .ref b1, .ref b2, .ref b3, .ref b4, .ref b5, .int 0])), (k0, .inr (7, [.ref b6, .ref b7, .ref b8, .ref b9, .ref b10, .int 0, .int 0])), (r0, .inr (3, [.int 0, .ref g.2.1, .int 0]))] rfl rfl (⟨rfl, rfl⟩) (by decide) (by decide) dX11_countAboard_43

set_option maxHeartbeats 4000000 in
set_option maxRecDepth 100000 in
theorem m_X11_areCrewsSound (l : Launch) (hl0 : l.stackTraces = false) (g : kG) (h0 : Nat) (a1 : Nat) (a2 : Nat) (a3 : Nat) (a4 : Nat) (a5 : Nat) (k0 : Nat) (r0 : Nat) (b1 : Nat) (b2 : Nat) (b3 : Nat) (b4 : Nat) (b5 : Nat) (b6 : Nat) (b7 : Nat) (b8 : Nat) (b9 : Nat) (b10 : Nat)  : kc l g yX11_areCrewsSound prog_1_method_101_code 3 (some .boolean) 2 42 0 0 [.ref h0] [(h0, .inr (15, [.ref a1, .ref a2, .ref a3, .ref a4, .ref a5, .int 0, .int 0, .int 110, .int 0, .int 0, .int 0])), (a1, .inr (3, [.int 0, .ref g.2.1, .int 0])), (a2, .inr (3, [.int 0, .ref g.2.1, .int 0])), (a3, .inr (3, [.int 0, .ref g.2.1, .int 0])), (a4, .inr (3, [.int 0, .ref g.2.1, .int 0])), (a5, .inr (5, [.ref k0, .ref r0, .ref b1, .ref b2, .ref b3, .ref b4, .ref b5, .int 0])), (k0, .inr (7, [.ref b6, .ref b7, .ref b8, .ref b9, .ref b10, .int 0, .int 0])), (r0, .inr (3, [.int 0, .ref g.2.1, .int 0]))] (fun v w => (v = some (.int 1) ∧ w = [(h0, .inr (15, [.ref a1, .ref a2, .ref a3, .ref a4, .ref a5, .int 0, .int 0, .int 110, .int 0, .int 0, .int 0])), (a1, .inr (3, [.int 0, .ref g.2.1, .int 0])), (a2, .inr (3, [.int 0, .ref g.2.1, .int 0])), (a3, .inr (3, [.int 0, .ref g.2.1, .int 0])), (a4, .inr (3, [.int 0, .ref g.2.1, .int 0])), (a5, .inr (5, [.ref k0, .ref r0, .ref b1, .ref b2, .ref b3, .ref b4, .ref b5, .int 0])), (k0, .inr (7, [.ref b6, .ref b7, .ref b8, .ref b9, .ref b10, .int 0, .int 0])), (r0, .inr (3, [.int 0, .ref g.2.1, .int 0]))])) (fun _ _ => False) := by
  refine kbody (by decide) (Nat.le_of_ble_eq_true rfl) ?_
  intro p e s m args below meth c A H K ht G hP hD hA hS ls hl
  have K : KB p s m meth c RX11 "areCrewsSound" prog_1_method_101_code 3 (some .boolean) := K
  obtain ⟨hx, hb, hml, hown, hlocks, hr, hin⟩ := id K
  have hl : lv_has ls 3 [(0, .ref h0)] := hl
  refine lv_iconst (v := 0) hx hb dX11_areCrewsSound_0 (by decide) ?_
  refine lv_istore_n (lv' := [(1, .int 0), (0, .ref h0)]) hx hb dX11_areCrewsSound_1 rfl hl (by decide) rfl (fun ls hl => ?_)
  refine lv_iconst (v := 0) hx hb dX11_areCrewsSound_2 (by decide) ?_
  refine lv_istore_n (lv' := [(2, .int 0), (1, .int 0), (0, .ref h0)]) hx hb dX11_areCrewsSound_3 rfl hl (by decide) rfl (fun ls hl => ?_)
  refine lv_iload_n hx hb dX11_areCrewsSound_4 rfl (lv_at hl 0 rfl) ?_
  refine lv_aload_n hx hb dX11_areCrewsSound_5 rfl (lv_at hl 2 rfl) ?_
  refine va_get (D := g.1) (ci := 15) (v := .ref a3) (C := RX11) (T := TX11) (N := 11) hx hb G.ws inX11 hown G.K hP 0 rfl rfl 2 (by decide) (G.w kw_52) (fun _ h9 => h9) rfl dX11_areCrewsSound_6 ?_
  refine kcallV (wc := [(a3, .inr (3, [.int 0, .ref g.2.1, .int 0]))]) (wr := [(h0, .inr (15, [.ref a1, .ref a2, .ref a3, .ref a4, .ref a5, .int 0, .int 0, .int 110, .int 0, .int 0, .int 0])), (a1, .inr (3, [.int 0, .ref g.2.1, .int 0])), (a2, .inr (3, [.int 0, .ref g.2.1, .int 0])), (a4, .inr (3, [.int 0, .ref g.2.1, .int 0])), (a5, .inr (5, [.ref k0, .ref r0, .ref b1, .ref b2, .ref b3, .ref b4, .ref b5, .int 0])), (k0, .inr (7, [.ref b6, .ref b7, .ref b8, .ref b9, .ref b10, .int 0, .int 0])), (r0, .inr (3, [.int 0, .ref g.2.1, .int 0]))]) (As := []) (rest := [.int 0]) K G (m_Jx4a65c_size_8abf5 l hl0 g a3 0 g.2.1 0 ) hP hD hS hA hl kw_44 kw_45 kw_46 kw_47 kw_30 ydJx4a65c_size_8abf5 [3] [0, 1, 2, 4, 5, 6, 7] rfl rfl rfl rfl (by decide) (ci := 3) (q0 := 3) rfl rfl rfl rfl rfl (Nat.le_of_ble_eq_true rfl) dX11_areCrewsSound_9 ⟨Nat.le_of_ble_eq_true rfl, Nat.le_of_ble_eq_true rfl⟩ ⟨Nat.le_of_ble_eq_true rfl, Nat.le_of_ble_eq_true rfl⟩ (fun _ _ _ _ _ _ hX _ _ _ _ _ _ => hX.elim) (fun v w1 H locs hQ hP hD hS => ?_)
  obtain ⟨rfl, rfl⟩ := hQ
  have hP : va_P g.1 vwCl [(h0, .inr (15, [.ref a1, .ref a2, .ref a3, .ref a4, .ref a5, .int 0, .int 0, .int 110, .int 0, .int 0, .int 0])), (a1, .inr (3, [.int 0, .ref g.2.1, .int 0])), (a2, .inr (3, [.int 0, .ref g.2.1, .int 0])), (a4, .inr (3, [.int 0, .ref g.2.1, .int 0])), (a5, .inr (5, [.ref k0, .ref r0, .ref b1, .ref b2, .ref b3, .ref b4, .ref b5, .int 0])), (k0, .inr (7, [.ref b6, .ref b7, .ref b8, .ref b9, .ref b10, .int 0, .int 0])), (r0, .inr (3, [.int 0, .ref g.2.1, .int 0])), (a3, .inr (3, [.int 0, .ref g.2.1, .int 0]))] H := hP
  have hD : va_D A [(h0, .inr (15, [.ref a1, .ref a2, .ref a3, .ref a4, .ref a5, .int 0, .int 0, .int 110, .int 0, .int 0, .int 0])), (a1, .inr (3, [.int 0, .ref g.2.1, .int 0])), (a2, .inr (3, [.int 0, .ref g.2.1, .int 0])), (a4, .inr (3, [.int 0, .ref g.2.1, .int 0])), (a5, .inr (5, [.ref k0, .ref r0, .ref b1, .ref b2, .ref b3, .ref b4, .ref b5, .int 0])), (k0, .inr (7, [.ref b6, .ref b7, .ref b8, .ref b9, .ref b10, .int 0, .int 0])), (r0, .inr (3, [.int 0, .ref g.2.1, .int 0])), (a3, .inr (3, [.int 0, .ref g.2.1, .int 0]))] := hD
  refine W.widen (k := 0) (n := 0) (by decide) (by decide) ?_
  refine W.eq (g2 := F0 m 12 ls [.int 0, .int 0]) rfl ?_
  refine lv_icmp_ge (tgt := 29) hx hb dX11_areCrewsSound_12 (by decide) (fun _ => ?_) (fun c12_2 => absurd c12_2 (by decide))
  refine lv_iload_n hx hb dX11_areCrewsSound_29 rfl (lv_at hl 1 rfl) ?_
  refine lv_aload_n hx hb dX11_areCrewsSound_30 rfl (lv_at hl 2 rfl) ?_
  refine kcallV (wc := [(h0, .inr (15, [.ref a1, .ref a2, .ref a3, .ref a4, .ref a5, .int 0, .int 0, .int 110, .int 0, .int 0, .int 0])), (a1, .inr (3, [.int 0, .ref g.2.1, .int 0])), (a2, .inr (3, [.int 0, .ref g.2.1, .int 0])), (a3, .inr (3, [.int 0, .ref g.2.1, .int 0])), (a4, .inr (3, [.int 0, .ref g.2.1, .int 0])), (a5, .inr (5, [.ref k0, .ref r0, .ref b1, .ref b2, .ref b3, .ref b4, .ref b5, .int 0])), (k0, .inr (7, [.ref b6, .ref b7, .ref b8, .ref b9, .ref b10, .int 0, .int 0])), (r0, .inr (3, [.int 0, .ref g.2.1, .int 0]))]) (wr := []) (As := []) (rest := [.int 0]) K G (m_X11_countAboard l hl0 g h0 a1 a2 a3 a4 a5 k0 r0 b1 b2 b3 b4 b5 b6 b7 b8 b9 b10 ) hP hD hS hA hl kw_255 kw_256 kw_257 kw_258 kw_4 ydX11_countAboard [0, 1, 2, 7, 3, 4, 5, 6] [] rfl rfl rfl rfl (by decide) (ci := 15) (q0 := 0) rfl rfl rfl rfl rfl (Nat.le_of_ble_eq_true rfl) dX11_areCrewsSound_31 ⟨Nat.le_of_ble_eq_true rfl, Nat.le_of_ble_eq_true rfl⟩ ⟨Nat.le_of_ble_eq_true rfl, Nat.le_of_ble_eq_true rfl⟩ (fun _ _ _ _ _ _ hX _ _ _ _ _ _ => hX.elim) (fun v w1 H locs hQ hP hD hS => ?_)
  obtain ⟨rfl, rfl⟩ := hQ
  have hP : va_P g.1 vwCl [(h0, .inr (15, [.ref a1, .ref a2, .ref a3, .ref a4, .ref a5, .int 0, .int 0, .int 110, .int 0, .int 0, .int 0])), (a1, .inr (3, [.int 0, .ref g.2.1, .int 0])), (a2, .inr (3, [.int 0, .ref g.2.1, .int 0])), (a3, .inr (3, [.int 0, .ref g.2.1, .int 0])), (a4, .inr (3, [.int 0, .ref g.2.1, .int 0])), (a5, .inr (5, [.ref k0, .ref r0, .ref b1, .ref b2, .ref b3, .ref b4, .ref b5, .int 0])), (k0, .inr (7, [.ref b6, .ref b7, .ref b8, .ref b9, .ref b10, .int 0, .int 0])), (r0, .inr (3, [.int 0, .ref g.2.1, .int 0]))] H := hP
  have hD : va_D A [(h0, .inr (15, [.ref a1, .ref a2, .ref a3, .ref a4, .ref a5, .int 0, .int 0, .int 110, .int 0, .int 0, .int 0])), (a1, .inr (3, [.int 0, .ref g.2.1, .int 0])), (a2, .inr (3, [.int 0, .ref g.2.1, .int 0])), (a3, .inr (3, [.int 0, .ref g.2.1, .int 0])), (a4, .inr (3, [.int 0, .ref g.2.1, .int 0])), (a5, .inr (5, [.ref k0, .ref r0, .ref b1, .ref b2, .ref b3, .ref b4, .ref b5, .int 0])), (k0, .inr (7, [.ref b6, .ref b7, .ref b8, .ref b9, .ref b10, .int 0, .int 0])), (r0, .inr (3, [.int 0, .ref g.2.1, .int 0]))] := hD
  refine W.widen (k := 0) (n := 0) (by decide) (by decide) ?_
  refine W.eq (g2 := F0 m 34 ls [.int 0, .int 0]) rfl ?_
  refine lv_icmp_ne (tgt := 41) hx hb dX11_areCrewsSound_34 (by decide) (fun c34_4 => absurd c34_4 (by decide)) (fun _ => ?_)
  refine lv_iconst (v := 1) hx hb dX11_areCrewsSound_37 (by decide) ?_
  refine lv_goto (tgt := 42) hx hb dX11_areCrewsSound_38 (by decide) ?_
  exact kretZ K hP hD hS [0, 1, 2, 3, 4, 5, 6, 7] [(h0, .inr (15, [.ref a1, .ref a2, .ref a3, .ref a4, .ref a5, .int 0, .int 0, .int 110, .int 0, .int 0, .int 0])), (a1, .inr (3, [.int 0, .ref g.2.1, .int 0])), (a2, .inr (3, [.int 0, .ref g.2.1, .int 0])), (a3, .inr (3, [.int 0, .ref g.2.1, .int 0])), (a4, .inr (3, [.int 0, .ref g.2.1, .int 0])), (a5, .inr (5, [.ref k0, .ref r0, .ref b1, .ref b2, .ref b3, .ref b4, .ref b5, .int 0])), (k0, .inr (7, [.ref b6, .ref b7, .ref b8, .ref b9, .ref b10, .int 0, .int 0])), (r0, .inr (3, [.int 0, .ref g.2.1, .int 0]))] rfl rfl (⟨rfl, rfl⟩) (by decide) (by decide) dX11_areCrewsSound_42


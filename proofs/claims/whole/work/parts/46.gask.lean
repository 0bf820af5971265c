theorem sw_out3 {x : Int32} (h0 : ¬ x = nI 0) (h1 : ¬ x = nI 1) (h2 : ¬ x = nI 2) : x.toInt < 0 ∨ 2 < x.toInt := by
  have e0 : ¬ x.toInt = 0 := fun h => h0 (Int32.toInt_inj.mp (h.trans (by decide)))
  have e1 : ¬ x.toInt = 1 := fun h => h1 (Int32.toInt_inj.mp (h.trans (by decide)))
  have e2 : ¬ x.toInt = 2 := fun h => h2 (Int32.toInt_inj.mp (h.trans (by decide)))
  omega
def p_gNode (sealed : Int32) (truths : Nat → Int32) (bounds : Nat → Int32) (peaks : Nat → Int32) (errors : Nat → Int32) (alive : Nat → Int32) (n : Int32) (what : Int32) : Sum Nat (Int32) := tx_then (p_gNeedIndex n (nI 6)) (tx_then (p_gNeedIndex what (nI 4)) (tx_then (p_gNeedSealed sealed) (if what = nI 0 then (Sum.inr ((truths n.toNatClampNeg))) else (if what = nI 1 then (Sum.inr ((bounds n.toNatClampNeg))) else (if what = nI 2 then (Sum.inr ((peaks n.toNatClampNeg))) else (if (alive n.toNatClampNeg) = 0 then (Sum.inr ((-1))) else (Sum.inr ((p_reading truths errors n.toNatClampNeg)))))))))
set_option maxHeartbeats 1000000 in
set_option maxRecDepth 100000 in
theorem c_gNode (l : Launch) {z : State} {za : Array Value} (zh : ∀ w ∈ lw_tbl, w.before za z = true) (D : va_G) (cI cZ cJ : ClassId) (hfl : l.flags = pinnedFlags ++ [noTraceFlag]) (aT : Nat) (cT : Cell) (hTz : tz_S z aT cT) (a_gov : Nat) (a_chip : Nat) (a_outlook : Nat) (a_nodes : Nat) (a_cores : Nat) (a_looked : Nat) (a_truths : Nat) (a_bounds : Nat) (a_peaks : Nat) (a_errors : Nat) (a_alive : Nat) (sz : Nat) (sealed : Int32) (truths : Nat → Int32) (bounds : Nat → Int32) (peaks : Nat → Int32) (errors : Nat → Int32) (alive : Nat → Int32) (n : Int32) (what : Int32) :
    tx_Met l y_Gov_node [Cond.code y_Gov_node prog_1_method_16_code 3 (some .int)] { frames := 7, cells := 1, slots := 6, locals := 111 } (va_Pc [.ref a_gov, .int n, .int what] (PreX aT cT (PreW z D classes cI cZ cJ sz [(a_gov, .inr (0, [.ref a_chip, .ref a_outlook, .ref a_nodes, .ref a_cores, .ref a_looked, .int sealed])), (a_nodes, .inr (3, [.ref a_truths, .ref a_bounds, .ref a_peaks, .ref a_errors, .ref a_alive])), (a_truths, .inl (cI, 7, .inl truths)), (a_bounds, .inl (cI, 7, .inl bounds)), (a_peaks, .inl (cI, 6, .inl peaks)), (a_errors, .inl (cI, 6, .inl errors)), (a_alive, .inl (cZ, 6, .inl alive))]))) (tx_Or (va_Qi (fun (r : Int32) (_ : Unit) => Sum.inr r = p_gNode sealed truths bounds peaks errors alive n what) (fun u => PostW D classes (va_A [(a_gov, .inr (0, [.ref a_chip, .ref a_outlook, .ref a_nodes, .ref a_cores, .ref a_looked, .int sealed])), (a_nodes, .inr (3, [.ref a_truths, .ref a_bounds, .ref a_peaks, .ref a_errors, .ref a_alive])), (a_truths, .inl (cI, 7, .inl truths)), (a_bounds, .inl (cI, 7, .inl bounds)), (a_peaks, .inl (cI, 6, .inl peaks)), (a_errors, .inl (cI, 6, .inl errors)), (a_alive, .inl (cZ, 6, .inl alive))] sz) [(a_gov, .inr (0, [.ref a_chip, .ref a_outlook, .ref a_nodes, .ref a_cores, .ref a_looked, .int sealed])), (a_nodes, .inr (3, [.ref a_truths, .ref a_bounds, .ref a_peaks, .ref a_errors, .ref a_alive])), (a_truths, .inl (cI, 7, .inl truths)), (a_bounds, .inl (cI, 7, .inl bounds)), (a_peaks, .inl (cI, 6, .inl peaks)), (a_errors, .inl (cI, 6, .inl errors)), (a_alive, .inl (cZ, 6, .inl alive))]) (va_A [(a_gov, .inr (0, [.ref a_chip, .ref a_outlook, .ref a_nodes, .ref a_cores, .ref a_looked, .int sealed])), (a_nodes, .inr (3, [.ref a_truths, .ref a_bounds, .ref a_peaks, .ref a_errors, .ref a_alive])), (a_truths, .inl (cI, 7, .inl truths)), (a_bounds, .inl (cI, 7, .inl bounds)), (a_peaks, .inl (cI, 6, .inl peaks)), (a_errors, .inl (cI, 6, .inl errors)), (a_alive, .inl (cZ, 6, .inl alive))] sz)) (p_gNode sealed truths bounds peaks errors alive n what)) 1 6 (va_A [(a_gov, .inr (0, [.ref a_chip, .ref a_outlook, .ref a_nodes, .ref a_cores, .ref a_looked, .int sealed])), (a_nodes, .inr (3, [.ref a_truths, .ref a_bounds, .ref a_peaks, .ref a_errors, .ref a_alive])), (a_truths, .inl (cI, 7, .inl truths)), (a_bounds, .inl (cI, 7, .inl bounds)), (a_peaks, .inl (cI, 6, .inl peaks)), (a_errors, .inl (cI, 6, .inl errors)), (a_alive, .inl (cZ, 6, .inl alive))] sz) := by
  refine tx_ofQ (cc := prog_1_method_16_code) (maxL := 3) (ret := (some .int)) (by decide +kernel) rfl ?_
  intro p e s m args below meth c s₁ Q B hml hout hv hQ hX
  obtain ⟨rfl, ⟨rfl, hZ, hP, hK, hD0⟩, hTc⟩ := hv
  have hx := B.exec
  have hb := B.bytes
  have hr := B.returns
  have hown : s.vm.findClass R_Gov = some m.cls := findClass_of_methodNamed B.named
  have hlocks := B.notSynchronized
  clear B
  have hD := hD0.self (sz := s.heap.size)
  generalize hAe : va_A [(a_gov, .inr (0, [.ref a_chip, .ref a_outlook, .ref a_nodes, .ref a_cores, .ref a_looked, .int sealed])), (a_nodes, .inr (3, [.ref a_truths, .ref a_bounds, .ref a_peaks, .ref a_errors, .ref a_alive])), (a_truths, .inl (cI, 7, .inl truths)), (a_bounds, .inl (cI, 7, .inl bounds)), (a_peaks, .inl (cI, 6, .inl peaks)), (a_errors, .inl (cI, 6, .inl errors)), (a_alive, .inl (cZ, 6, .inl alive))] s.heap.size = A at hD hQ hX
  have hA : ∀ q : Nat, s.heap.size ≤ q → A q := fun q h => by rw [← hAe]; exact Or.inr h
  clear hAe hD0
  have hS : va_S A s.heap s.heap [] := va_S.rf
  have hl := lv_entry ([.ref a_gov, .int n, .int what]) (n := 3) (Nat.le_of_ble_eq_true rfl)
  rw [lg_entry_eq]
  generalize (lg_sl ([.ref a_gov, .int n, .int what]) ++ List.replicate (3 - (lg_sl ([.ref a_gov, .int n, .int what])).length) Slot.unset).toArray = ls at hl ⊢
  have hl : lv_has ls 3 [(0, .ref a_gov), (1, .int n), (2, .int what)] := hl
  have hR : p_gNode sealed truths bounds peaks errors alive n what = (tx_then (p_gNeedIndex n (nI 6)) (tx_then (p_gNeedIndex what (nI 4)) (tx_then (p_gNeedSealed sealed) (if what = nI 0 then (Sum.inr ((truths n.toNatClampNeg))) else (if what = nI 1 then (Sum.inr ((bounds n.toNatClampNeg))) else (if what = nI 2 then (Sum.inr ((peaks n.toNatClampNeg))) else (if (alive n.toNatClampNeg) = 0 then (Sum.inr ((-1))) else (Sum.inr ((p_reading truths errors n.toNatClampNeg)))))))))) := rfl
  refine lv_iload_n hx hb d_Gov_node_0 rfl (lv_at hl 1 rfl) ?_
  refine lv_bipush (v := nI 6) hx hb d_Gov_node_1 (by decide) ?_
  refine tx_need (kx_S (As := [.int n, .int (nI 6)]) (rest := []) hTc hx hb hml hown hZ (c_gNeedIndex l zh D cI cZ cJ hfl aT cT hTz _ n (nI 6)) (s_Gov_47_Gov_needIndex zh hZ) (wd zh hZ 240 q_240 rfl) ⟨rfl, rfl, by decide, by decide⟩ (hP.sub [] rfl) hK (hD.sub [] (by decide) rfl) rfl hl.1 rfl (Nat.le_of_ble_eq_true rfl) d_Gov_node_3 (by decide) (by decide)) (va_free hD hS hA [] rfl) hlocks hout hR hX (fun hn3 hR => ?_)
  refine lv_iload_n hx hb d_Gov_node_6 rfl (lv_at hl 2 rfl) ?_
  refine lv_iconst (v := nI 4) hx hb d_Gov_node_7 (by decide) ?_
  refine tx_need (kx_S (As := [.int what, .int (nI 4)]) (rest := []) hTc hx hb hml hown hZ (c_gNeedIndex l zh D cI cZ cJ hfl aT cT hTz _ what (nI 4)) (s_Gov_47_Gov_needIndex zh hZ) (wd zh hZ 240 q_240 rfl) ⟨rfl, rfl, by decide, by decide⟩ (hP.sub [] rfl) hK (hD.sub [] (by decide) rfl) rfl hl.1 rfl (Nat.le_of_ble_eq_true rfl) d_Gov_node_8 (by decide) (by decide)) (va_free hD hS hA [] rfl) hlocks hout hR hX (fun hn8 hR => ?_)
  refine lv_aload_n hx hb d_Gov_node_11 rfl (lv_at hl 0 rfl) ?_
  refine tx_need (kx_V (As := []) (b := a_gov) (rest := []) (C := R_Gov) hTc hx hb hml hown hZ (c_gNeedSealed l zh D cI cZ cJ hfl aT cT hTz a_gov a_chip a_outlook a_nodes a_cores a_looked _ sealed) (s_Gov_134_Gov_needSealed zh hZ) (wd zh hZ 480 q_480 rfl) (wd zh hZ 7 q_7 rfl) ⟨rfl, rfl, by decide, by decide⟩ (va_recv hK hP (ci := 0) rfl (q0 := 0) rfl) (hP.sub [0] rfl) hK (hD.sub [0] (by decide) rfl) rfl hl.1 rfl (Nat.le_of_ble_eq_true rfl) d_Gov_node_12 (by decide) (by decide)) (va_free hD hS hA [0] rfl) hlocks hout hR hX (fun hn12 hR => ?_)
  obtain ⟨e_n, l_n⟩ := tn_of (x := n) (n := 6) (by decide) (ni_in (by decide) hn3)
  have hl : lv_has ls 3 [(0, .ref a_gov), (1, .int (nI n.toNatClampNeg)), (2, .int what)] := by rw [← e_n]; exact hl
  refine lv_iload_n hx hb d_Gov_node_15 rfl (lv_at hl 2 rfl) ?_
  by_cases hsw1 : what = nI 0
  · have hR := hR.trans (if_pos hsw1)
    refine lv_tableIn (off := 28) (tgt := 44) hx hb d_Gov_node_16 (by rw [hsw1]; decide) (by rw [hsw1]; decide) (by rw [hsw1]; rfl) (by decide) ?_
    refine lv_aload_n hx hb d_Gov_node_44 rfl (lv_at hl 0 rfl) ?_
    refine va_get (D := D) (ci := 0) (v := .ref a_nodes) (C := R_Gov) (T := F_Gov) (N := 6) hx hb (u_Gov zh hZ) (fun _ h => h) hown hK hP 0 rfl rfl 2 (by decide) (wd zh hZ 207 q_207 rfl) (fun _ h9 => h9) rfl d_Gov_node_45 ?_
    refine va_get (D := D) (ci := 3) (v := .ref a_truths) (C := R_Nodes) (T := F_Nodes) (N := 5) hx hb (u_Nodes zh hZ) (fun _ h => h) hown hK hP 1 rfl rfl 0 (by decide) (wd zh hZ 150 q_150 rfl) (fun _ h9 => h9) rfl d_Gov_node_48 ?_
    refine lv_iload_n hx hb d_Gov_node_51 rfl (lv_at hl 1 rfl) ?_
    refine nn_iald hx hb hK hP 2 0 rfl rfl (j := n.toNatClampNeg) (by omega) (by decide) d_Gov_node_52 ?_
    exact (W.iret (v := (truths n.toNatClampNeg)) hx hb hr (fun t9 ht hW => ⟨⟨(truths n.toNatClampNeg), (), rfl, hR.symm, by rw [ht]; exact hP, hD⟩, hS.F ht⟩) hS.2.2 d_Gov_node_53).mono hQ
  · have hR := hR.trans (if_neg hsw1)
    by_cases hsw2 : what = nI 1
    · have hR := hR.trans (if_pos hsw2)
      refine lv_tableIn (off := 38) (tgt := 54) hx hb d_Gov_node_16 (by rw [hsw2]; decide) (by rw [hsw2]; decide) (by rw [hsw2]; rfl) (by decide) ?_
      refine lv_aload_n hx hb d_Gov_node_54 rfl (lv_at hl 0 rfl) ?_
      refine va_get (D := D) (ci := 0) (v := .ref a_nodes) (C := R_Gov) (T := F_Gov) (N := 6) hx hb (u_Gov zh hZ) (fun _ h => h) hown hK hP 0 rfl rfl 2 (by decide) (wd zh hZ 207 q_207 rfl) (fun _ h9 => h9) rfl d_Gov_node_55 ?_
      refine va_get (D := D) (ci := 3) (v := .ref a_bounds) (C := R_Nodes) (T := F_Nodes) (N := 5) hx hb (u_Nodes zh hZ) (fun _ h => h) hown hK hP 1 rfl rfl 1 (by decide) (wd zh hZ 152 q_152 rfl) (fun _ h9 => h9) rfl d_Gov_node_58 ?_
      refine lv_iload_n hx hb d_Gov_node_61 rfl (lv_at hl 1 rfl) ?_
      refine nn_iald hx hb hK hP 3 0 rfl rfl (j := n.toNatClampNeg) (by omega) (by decide) d_Gov_node_62 ?_
      exact (W.iret (v := (bounds n.toNatClampNeg)) hx hb hr (fun t9 ht hW => ⟨⟨(bounds n.toNatClampNeg), (), rfl, hR.symm, by rw [ht]; exact hP, hD⟩, hS.F ht⟩) hS.2.2 d_Gov_node_63).mono hQ
    · have hR := hR.trans (if_neg hsw2)
      by_cases hsw3 : what = nI 2
      · have hR := hR.trans (if_pos hsw3)
        refine lv_tableIn (off := 48) (tgt := 64) hx hb d_Gov_node_16 (by rw [hsw3]; decide) (by rw [hsw3]; decide) (by rw [hsw3]; rfl) (by decide) ?_
        refine lv_aload_n hx hb d_Gov_node_64 rfl (lv_at hl 0 rfl) ?_
        refine va_get (D := D) (ci := 0) (v := .ref a_nodes) (C := R_Gov) (T := F_Gov) (N := 6) hx hb (u_Gov zh hZ) (fun _ h => h) hown hK hP 0 rfl rfl 2 (by decide) (wd zh hZ 207 q_207 rfl) (fun _ h9 => h9) rfl d_Gov_node_65 ?_
        refine va_get (D := D) (ci := 3) (v := .ref a_peaks) (C := R_Nodes) (T := F_Nodes) (N := 5) hx hb (u_Nodes zh hZ) (fun _ h => h) hown hK hP 1 rfl rfl 2 (by decide) (wd zh hZ 154 q_154 rfl) (fun _ h9 => h9) rfl d_Gov_node_68 ?_
        refine lv_iload_n hx hb d_Gov_node_71 rfl (lv_at hl 1 rfl) ?_
        refine nn_iald hx hb hK hP 4 0 rfl rfl (j := n.toNatClampNeg) (by omega) (by decide) d_Gov_node_72 ?_
        exact (W.iret (v := (peaks n.toNatClampNeg)) hx hb hr (fun t9 ht hW => ⟨⟨(peaks n.toNatClampNeg), (), rfl, hR.symm, by rw [ht]; exact hP, hD⟩, hS.F ht⟩) hS.2.2 d_Gov_node_73).mono hQ
      · have hR := hR.trans (if_neg hsw3)
        refine lv_tableOut (tgt := 74) hx hb d_Gov_node_16 (sw_out3 hsw1 hsw2 hsw3) (by decide) ?_
        refine lv_aload_n hx hb d_Gov_node_74 rfl (lv_at hl 0 rfl) ?_
        refine va_get (D := D) (ci := 0) (v := .ref a_nodes) (C := R_Gov) (T := F_Gov) (N := 6) hx hb (u_Gov zh hZ) (fun _ h => h) hown hK hP 0 rfl rfl 2 (by decide) (wd zh hZ 207 q_207 rfl) (fun _ h9 => h9) rfl d_Gov_node_75 ?_
        refine va_get (D := D) (ci := 3) (v := .ref a_alive) (C := R_Nodes) (T := F_Nodes) (N := 5) hx hb (u_Nodes zh hZ) (fun _ h => h) hown hK hP 1 rfl rfl 4 (by decide) (wd zh hZ 158 q_158 rfl) (fun _ h9 => h9) rfl d_Gov_node_78 ?_
        refine lv_iload_n hx hb d_Gov_node_81 rfl (lv_at hl 1 rfl) ?_
        refine nn_zald hx hb hK hP 6 1 rfl rfl (j := n.toNatClampNeg) (by omega) (by decide) d_Gov_node_82 ?_
        refine lv_if_eq (tgt := 97) hx hb d_Gov_node_83 (by decide) (fun h4 => ?_) (fun h4 => ?_)
        · have hR := hR.trans (if_pos h4)
          refine lv_iconst (v := (-1)) hx hb d_Gov_node_97 (by decide) ?_
          exact (W.iret (v := (-1)) hx hb hr (fun t9 ht hW => ⟨⟨(-1), (), rfl, hR.symm, by rw [ht]; exact hP, hD⟩, hS.F ht⟩) hS.2.2 d_Gov_node_98).mono hQ
        · have hR := hR.trans (if_neg h4)
          refine lv_aload_n hx hb d_Gov_node_86 rfl (lv_at hl 0 rfl) ?_
          refine va_get (D := D) (ci := 0) (v := .ref a_nodes) (C := R_Gov) (T := F_Gov) (N := 6) hx hb (u_Gov zh hZ) (fun _ h => h) hown hK hP 0 rfl rfl 2 (by decide) (wd zh hZ 207 q_207 rfl) (fun _ h9 => h9) rfl d_Gov_node_87 ?_
          refine lv_iload_n hx hb d_Gov_node_90 rfl (lv_at hl 1 rfl) ?_
          refine ke_i (S := Unit) (fun uu => [(a_gov, .inr (0, [.ref a_chip, .ref a_outlook, .ref a_nodes, .ref a_cores, .ref a_looked, .int sealed])), (a_nodes, .inr (3, [.ref a_truths, .ref a_bounds, .ref a_peaks, .ref a_errors, .ref a_alive])), (a_truths, .inl (cI, 7, .inl truths)), (a_bounds, .inl (cI, 7, .inl bounds)), (a_peaks, .inl (cI, 6, .inl peaks)), (a_errors, .inl (cI, 6, .inl errors)), (a_alive, .inl (cZ, 6, .inl alive))]) (kr_V (As := [.int (nI n.toNatClampNeg)]) (b := a_nodes) (rest := []) (C := R_Nodes) hx hb hml hown hZ (c_reading l zh D cI cZ cJ a_nodes a_truths a_bounds a_peaks a_errors a_alive _ truths errors n.toNatClampNeg (by omega)) (s_Gov_172_Nodes_reading zh hZ) (wd zh hZ 546 q_546 rfl) (wd zh hZ 547 q_547 rfl) ⟨rfl, rfl, by decide, by decide⟩ (va_recv hK hP (ci := 3) rfl (q0 := 1) rfl) (hP.sub [1, 2, 5] rfl) hK (hD.sub [1, 2, 5] (by decide) rfl) rfl hl.1 rfl (Nat.le_of_ble_eq_true rfl) d_Gov_node_91 (Nat.zero_le _) (Nat.zero_le _)) hP hD hS hA 7 [1, 2, 5] [0, 3, 4, 6] rfl (fun _ => rfl) (fun _ => rfl) (by decide) (by decide) (fun _ => rfl) (fun _ => rfl) rfl (fun rr uu H locs hu hP hD hS => ?_)
          subst hu
          have hP : va_P D classes [(a_gov, .inr (0, [.ref a_chip, .ref a_outlook, .ref a_nodes, .ref a_cores, .ref a_looked, .int sealed])), (a_nodes, .inr (3, [.ref a_truths, .ref a_bounds, .ref a_peaks, .ref a_errors, .ref a_alive])), (a_truths, .inl (cI, 7, .inl truths)), (a_bounds, .inl (cI, 7, .inl bounds)), (a_peaks, .inl (cI, 6, .inl peaks)), (a_errors, .inl (cI, 6, .inl errors)), (a_alive, .inl (cZ, 6, .inl alive))] H := hP
          have hD : va_D A [(a_gov, .inr (0, [.ref a_chip, .ref a_outlook, .ref a_nodes, .ref a_cores, .ref a_looked, .int sealed])), (a_nodes, .inr (3, [.ref a_truths, .ref a_bounds, .ref a_peaks, .ref a_errors, .ref a_alive])), (a_truths, .inl (cI, 7, .inl truths)), (a_bounds, .inl (cI, 7, .inl bounds)), (a_peaks, .inl (cI, 6, .inl peaks)), (a_errors, .inl (cI, 6, .inl errors)), (a_alive, .inl (cZ, 6, .inl alive))] := hD
          refine lv_goto (tgt := 98) hx hb d_Gov_node_94 (by decide) ?_
          exact (W.iret (v := (p_reading truths errors n.toNatClampNeg)) hx hb hr (fun t9 ht hW => ⟨⟨(p_reading truths errors n.toNatClampNeg), (), rfl, hR.symm, by rw [ht]; exact hP, hD⟩, hS.F ht⟩) hS.2.2 d_Gov_node_98).mono hQ
def p_gCore (sealed : Int32) (powr : Nat → Int32) (steps : Nat → Int32) (wishes : Nat → Int32) (waits : Nat → Int32) (told : Nat → Int32) (c1 : Int32) (what : Int32) : Sum Nat (Int32) := tx_then (p_gNeedIndex c1 (nI 4)) (tx_then (p_gNeedIndex what (nI 4)) (tx_then (p_gNeedSealed sealed) (if what = nI 0 then (Sum.inr ((steps c1.toNatClampNeg))) else (if what = nI 1 then (Sum.inr ((wishes c1.toNatClampNeg))) else (if what = nI 2 then (Sum.inr ((waits c1.toNatClampNeg))) else (Sum.inr ((p_trueDraw steps told powr c1.toNatClampNeg))))))))
set_option maxHeartbeats 1000000 in
set_option maxRecDepth 100000 in
theorem c_gCore (l : Launch) {z : State} {za : Array Value} (zh : ∀ w ∈ lw_tbl, w.before za z = true) (D : va_G) (cI cZ cJ : ClassId) (hfl : l.flags = pinnedFlags ++ [noTraceFlag]) (aT : Nat) (cT : Cell) (hTz : tz_S z aT cT) (a_gov : Nat) (a_chip : Nat) (a_outlook : Nat) (a_nodes : Nat) (a_cores : Nat) (a_looked : Nat) (a_lowCap : Nat) (a_highCap : Nat) (a_truCap : Nat) (a_lowE : Nat) (a_highE : Nat) (a_truE : Nat) (a_lim : Nat) (a_powr : Nat) (a_grow : Nat) (a_steps : Nat) (a_wishes : Nat) (a_ranks : Nat) (a_waits : Nat) (a_told : Nat) (a_grants : Nat) (sz : Nat) (sealed : Int32) (trueAir : Int32) (highAir : Int32) (leakBase : Int32) (leakSlope : Int32) (leakSteep : Int32) (leakKnee : Int32) (powr : Nat → Int32) (ticksHeld : Int32) (steps : Nat → Int32) (wishes : Nat → Int32) (waits : Nat → Int32) (told : Nat → Int32) (c1 : Int32) (what : Int32) (hst : ∀ j, j < 4 → vp_in (steps j) 4) :
    tx_Met l y_Gov_core [Cond.code y_Gov_core prog_1_method_17_code 3 (some .int)] { frames := 7, cells := 1, slots := 6, locals := 111 } (va_Pc [.ref a_gov, .int c1, .int what] (PreX aT cT (PreW z D classes cI cZ cJ sz [(a_gov, .inr (0, [.ref a_chip, .ref a_outlook, .ref a_nodes, .ref a_cores, .ref a_looked, .int sealed])), (a_chip, .inr (1, [.ref a_lowCap, .ref a_highCap, .ref a_truCap, .ref a_lowE, .ref a_highE, .ref a_truE, .ref a_lim, .ref a_powr, .int trueAir, .int highAir, .int leakBase, .int leakSlope, .int leakSteep, .int leakKnee, .ref a_grow])), (a_powr, .inl (cI, 4, .inl powr)), (a_cores, .inr (4, [.ref a_steps, .ref a_wishes, .ref a_ranks, .ref a_waits, .ref a_told, .ref a_grants, .int ticksHeld])), (a_steps, .inl (cI, 4, .inl steps)), (a_wishes, .inl (cI, 4, .inl wishes)), (a_waits, .inl (cI, 4, .inl waits)), (a_told, .inl (cI, 4, .inl told))]))) (tx_Or (va_Qi (fun (r : Int32) (_ : Unit) => Sum.inr r = p_gCore sealed powr steps wishes waits told c1 what) (fun u => PostW D classes (va_A [(a_gov, .inr (0, [.ref a_chip, .ref a_outlook, .ref a_nodes, .ref a_cores, .ref a_looked, .int sealed])), (a_chip, .inr (1, [.ref a_lowCap, .ref a_highCap, .ref a_truCap, .ref a_lowE, .ref a_highE, .ref a_truE, .ref a_lim, .ref a_powr, .int trueAir, .int highAir, .int leakBase, .int leakSlope, .int leakSteep, .int leakKnee, .ref a_grow])), (a_powr, .inl (cI, 4, .inl powr)), (a_cores, .inr (4, [.ref a_steps, .ref a_wishes, .ref a_ranks, .ref a_waits, .ref a_told, .ref a_grants, .int ticksHeld])), (a_steps, .inl (cI, 4, .inl steps)), (a_wishes, .inl (cI, 4, .inl wishes)), (a_waits, .inl (cI, 4, .inl waits)), (a_told, .inl (cI, 4, .inl told))] sz) [(a_gov, .inr (0, [.ref a_chip, .ref a_outlook, .ref a_nodes, .ref a_cores, .ref a_looked, .int sealed])), (a_chip, .inr (1, [.ref a_lowCap, .ref a_highCap, .ref a_truCap, .ref a_lowE, .ref a_highE, .ref a_truE, .ref a_lim, .ref a_powr, .int trueAir, .int highAir, .int leakBase, .int leakSlope, .int leakSteep, .int leakKnee, .ref a_grow])), (a_powr, .inl (cI, 4, .inl powr)), (a_cores, .inr (4, [.ref a_steps, .ref a_wishes, .ref a_ranks, .ref a_waits, .ref a_told, .ref a_grants, .int ticksHeld])), (a_steps, .inl (cI, 4, .inl steps)), (a_wishes, .inl (cI, 4, .inl wishes)), (a_waits, .inl (cI, 4, .inl waits)), (a_told, .inl (cI, 4, .inl told))]) (va_A [(a_gov, .inr (0, [.ref a_chip, .ref a_outlook, .ref a_nodes, .ref a_cores, .ref a_looked, .int sealed])), (a_chip, .inr (1, [.ref a_lowCap, .ref a_highCap, .ref a_truCap, .ref a_lowE, .ref a_highE, .ref a_truE, .ref a_lim, .ref a_powr, .int trueAir, .int highAir, .int leakBase, .int leakSlope, .int leakSteep, .int leakKnee, .ref a_grow])), (a_powr, .inl (cI, 4, .inl powr)), (a_cores, .inr (4, [.ref a_steps, .ref a_wishes, .ref a_ranks, .ref a_waits, .ref a_told, .ref a_grants, .int ticksHeld])), (a_steps, .inl (cI, 4, .inl steps)), (a_wishes, .inl (cI, 4, .inl wishes)), (a_waits, .inl (cI, 4, .inl waits)), (a_told, .inl (cI, 4, .inl told))] sz)) (p_gCore sealed powr steps wishes waits told c1 what)) 1 6 (va_A [(a_gov, .inr (0, [.ref a_chip, .ref a_outlook, .ref a_nodes, .ref a_cores, .ref a_looked, .int sealed])), (a_chip, .inr (1, [.ref a_lowCap, .ref a_highCap, .ref a_truCap, .ref a_lowE, .ref a_highE, .ref a_truE, .ref a_lim, .ref a_powr, .int trueAir, .int highAir, .int leakBase, .int leakSlope, .int leakSteep, .int leakKnee, .ref a_grow])), (a_powr, .inl (cI, 4, .inl powr)), (a_cores, .inr (4, [.ref a_steps, .ref a_wishes, .ref a_ranks, .ref a_waits, .ref a_told, .ref a_grants, .int ticksHeld])), (a_steps, .inl (cI, 4, .inl steps)), (a_wishes, .inl (cI, 4, .inl wishes)), (a_waits, .inl (cI, 4, .inl waits)), (a_told, .inl (cI, 4, .inl told))] sz) := by
  refine tx_ofQ (cc := prog_1_method_17_code) (maxL := 3) (ret := (some .int)) (by decide +kernel) rfl ?_
  intro p e s m args below meth c s₁ Q B hml hout hv hQ hX
  obtain ⟨rfl, ⟨rfl, hZ, hP, hK, hD0⟩, hTc⟩ := hv
  have hx := B.exec
  have hb := B.bytes
  have hr := B.returns
  have hown : s.vm.findClass R_Gov = some m.cls := findClass_of_methodNamed B.named
  have hlocks := B.notSynchronized
  clear B
  have hD := hD0.self (sz := s.heap.size)
  generalize hAe : va_A [(a_gov, .inr (0, [.ref a_chip, .ref a_outlook, .ref a_nodes, .ref a_cores, .ref a_looked, .int sealed])), (a_chip, .inr (1, [.ref a_lowCap, .ref a_highCap, .ref a_truCap, .ref a_lowE, .ref a_highE, .ref a_truE, .ref a_lim, .ref a_powr, .int trueAir, .int highAir, .int leakBase, .int leakSlope, .int leakSteep, .int leakKnee, .ref a_grow])), (a_powr, .inl (cI, 4, .inl powr)), (a_cores, .inr (4, [.ref a_steps, .ref a_wishes, .ref a_ranks, .ref a_waits, .ref a_told, .ref a_grants, .int ticksHeld])), (a_steps, .inl (cI, 4, .inl steps)), (a_wishes, .inl (cI, 4, .inl wishes)), (a_waits, .inl (cI, 4, .inl waits)), (a_told, .inl (cI, 4, .inl told))] s.heap.size = A at hD hQ hX
  have hA : ∀ q : Nat, s.heap.size ≤ q → A q := fun q h => by rw [← hAe]; exact Or.inr h
  clear hAe hD0
  have hS : va_S A s.heap s.heap [] := va_S.rf
  have hl := lv_entry ([.ref a_gov, .int c1, .int what]) (n := 3) (Nat.le_of_ble_eq_true rfl)
  rw [lg_entry_eq]
  generalize (lg_sl ([.ref a_gov, .int c1, .int what]) ++ List.replicate (3 - (lg_sl ([.ref a_gov, .int c1, .int what])).length) Slot.unset).toArray = ls at hl ⊢
  have hl : lv_has ls 3 [(0, .ref a_gov), (1, .int c1), (2, .int what)] := hl
  have hR : p_gCore sealed powr steps wishes waits told c1 what = (tx_then (p_gNeedIndex c1 (nI 4)) (tx_then (p_gNeedIndex what (nI 4)) (tx_then (p_gNeedSealed sealed) (if what = nI 0 then (Sum.inr ((steps c1.toNatClampNeg))) else (if what = nI 1 then (Sum.inr ((wishes c1.toNatClampNeg))) else (if what = nI 2 then (Sum.inr ((waits c1.toNatClampNeg))) else (Sum.inr ((p_trueDraw steps told powr c1.toNatClampNeg))))))))) := rfl
  refine lv_iload_n hx hb d_Gov_core_0 rfl (lv_at hl 1 rfl) ?_
  refine lv_iconst (v := nI 4) hx hb d_Gov_core_1 (by decide) ?_
  refine tx_need (kx_S (As := [.int c1, .int (nI 4)]) (rest := []) hTc hx hb hml hown hZ (c_gNeedIndex l zh D cI cZ cJ hfl aT cT hTz _ c1 (nI 4)) (s_Gov_47_Gov_needIndex zh hZ) (wd zh hZ 240 q_240 rfl) ⟨rfl, rfl, by decide, by decide⟩ (hP.sub [] rfl) hK (hD.sub [] (by decide) rfl) rfl hl.1 rfl (Nat.le_of_ble_eq_true rfl) d_Gov_core_2 (by decide) (by decide)) (va_free hD hS hA [] rfl) hlocks hout hR hX (fun hn2 hR => ?_)
  refine lv_iload_n hx hb d_Gov_core_5 rfl (lv_at hl 2 rfl) ?_
  refine lv_iconst (v := nI 4) hx hb d_Gov_core_6 (by decide) ?_
  refine tx_need (kx_S (As := [.int what, .int (nI 4)]) (rest := []) hTc hx hb hml hown hZ (c_gNeedIndex l zh D cI cZ cJ hfl aT cT hTz _ what (nI 4)) (s_Gov_47_Gov_needIndex zh hZ) (wd zh hZ 240 q_240 rfl) ⟨rfl, rfl, by decide, by decide⟩ (hP.sub [] rfl) hK (hD.sub [] (by decide) rfl) rfl hl.1 rfl (Nat.le_of_ble_eq_true rfl) d_Gov_core_7 (by decide) (by decide)) (va_free hD hS hA [] rfl) hlocks hout hR hX (fun hn7 hR => ?_)
  refine lv_aload_n hx hb d_Gov_core_10 rfl (lv_at hl 0 rfl) ?_
  refine tx_need (kx_V (As := []) (b := a_gov) (rest := []) (C := R_Gov) hTc hx hb hml hown hZ (c_gNeedSealed l zh D cI cZ cJ hfl aT cT hTz a_gov a_chip a_outlook a_nodes a_cores a_looked _ sealed) (s_Gov_134_Gov_needSealed zh hZ) (wd zh hZ 480 q_480 rfl) (wd zh hZ 7 q_7 rfl) ⟨rfl, rfl, by decide, by decide⟩ (va_recv hK hP (ci := 0) rfl (q0 := 0) rfl) (hP.sub [0] rfl) hK (hD.sub [0] (by decide) rfl) rfl hl.1 rfl (Nat.le_of_ble_eq_true rfl) d_Gov_core_11 (by decide) (by decide)) (va_free hD hS hA [0] rfl) hlocks hout hR hX (fun hn11 hR => ?_)
  obtain ⟨e_c1, l_c1⟩ := tn_of (x := c1) (n := 4) (by decide) (ni_in (by decide) hn2)
  have hl : lv_has ls 3 [(0, .ref a_gov), (1, .int (nI c1.toNatClampNeg)), (2, .int what)] := by rw [← e_c1]; exact hl
  refine lv_iload_n hx hb d_Gov_core_14 rfl (lv_at hl 2 rfl) ?_
  by_cases hsw1 : what = nI 0
  · have hR := hR.trans (if_pos hsw1)
    refine lv_tableIn (off := 25) (tgt := 40) hx hb d_Gov_core_15 (by rw [hsw1]; decide) (by rw [hsw1]; decide) (by rw [hsw1]; rfl) (by decide) ?_
    refine lv_aload_n hx hb d_Gov_core_40 rfl (lv_at hl 0 rfl) ?_
    refine va_get (D := D) (ci := 0) (v := .ref a_cores) (C := R_Gov) (T := F_Gov) (N := 6) hx hb (u_Gov zh hZ) (fun _ h => h) hown hK hP 0 rfl rfl 3 (by decide) (wd zh hZ 208 q_208 rfl) (fun _ h9 => h9) rfl d_Gov_core_41 ?_
    refine va_get (D := D) (ci := 4) (v := .ref a_steps) (C := R_Cores) (T := F_Cores) (N := 7) hx hb (u_Cores zh hZ) (fun _ h => h) hown hK hP 3 rfl rfl 0 (by decide) (wd zh hZ 179 q_179 rfl) (fun _ h9 => h9) rfl d_Gov_core_44 ?_
    refine lv_iload_n hx hb d_Gov_core_47 rfl (lv_at hl 1 rfl) ?_
    refine nn_iald hx hb hK hP 4 0 rfl rfl (j := c1.toNatClampNeg) (by omega) (by decide) d_Gov_core_48 ?_
    exact (W.iret (v := (steps c1.toNatClampNeg)) hx hb hr (fun t9 ht hW => ⟨⟨(steps c1.toNatClampNeg), (), rfl, hR.symm, by rw [ht]; exact hP, hD⟩, hS.F ht⟩) hS.2.2 d_Gov_core_49).mono hQ
  · have hR := hR.trans (if_neg hsw1)
    by_cases hsw2 : what = nI 1
    · have hR := hR.trans (if_pos hsw2)
      refine lv_tableIn (off := 35) (tgt := 50) hx hb d_Gov_core_15 (by rw [hsw2]; decide) (by rw [hsw2]; decide) (by rw [hsw2]; rfl) (by decide) ?_
      refine lv_aload_n hx hb d_Gov_core_50 rfl (lv_at hl 0 rfl) ?_
      refine va_get (D := D) (ci := 0) (v := .ref a_cores) (C := R_Gov) (T := F_Gov) (N := 6) hx hb (u_Gov zh hZ) (fun _ h => h) hown hK hP 0 rfl rfl 3 (by decide) (wd zh hZ 208 q_208 rfl) (fun _ h9 => h9) rfl d_Gov_core_51 ?_
      refine va_get (D := D) (ci := 4) (v := .ref a_wishes) (C := R_Cores) (T := F_Cores) (N := 7) hx hb (u_Cores zh hZ) (fun _ h => h) hown hK hP 3 rfl rfl 1 (by decide) (wd zh hZ 181 q_181 rfl) (fun _ h9 => h9) rfl d_Gov_core_54 ?_
      refine lv_iload_n hx hb d_Gov_core_57 rfl (lv_at hl 1 rfl) ?_
      refine nn_iald hx hb hK hP 5 0 rfl rfl (j := c1.toNatClampNeg) (by omega) (by decide) d_Gov_core_58 ?_
      exact (W.iret (v := (wishes c1.toNatClampNeg)) hx hb hr (fun t9 ht hW => ⟨⟨(wishes c1.toNatClampNeg), (), rfl, hR.symm, by rw [ht]; exact hP, hD⟩, hS.F ht⟩) hS.2.2 d_Gov_core_59).mono hQ
    · have hR := hR.trans (if_neg hsw2)
      by_cases hsw3 : what = nI 2
      · have hR := hR.trans (if_pos hsw3)
        refine lv_tableIn (off := 45) (tgt := 60) hx hb d_Gov_core_15 (by rw [hsw3]; decide) (by rw [hsw3]; decide) (by rw [hsw3]; rfl) (by decide) ?_
        refine lv_aload_n hx hb d_Gov_core_60 rfl (lv_at hl 0 rfl) ?_
        refine va_get (D := D) (ci := 0) (v := .ref a_cores) (C := R_Gov) (T := F_Gov) (N := 6) hx hb (u_Gov zh hZ) (fun _ h => h) hown hK hP 0 rfl rfl 3 (by decide) (wd zh hZ 208 q_208 rfl) (fun _ h9 => h9) rfl d_Gov_core_61 ?_
        refine va_get (D := D) (ci := 4) (v := .ref a_waits) (C := R_Cores) (T := F_Cores) (N := 7) hx hb (u_Cores zh hZ) (fun _ h => h) hown hK hP 3 rfl rfl 3 (by decide) (wd zh hZ 185 q_185 rfl) (fun _ h9 => h9) rfl d_Gov_core_64 ?_
        refine lv_iload_n hx hb d_Gov_core_67 rfl (lv_at hl 1 rfl) ?_
        refine nn_iald hx hb hK hP 6 0 rfl rfl (j := c1.toNatClampNeg) (by omega) (by decide) d_Gov_core_68 ?_
        exact (W.iret (v := (waits c1.toNatClampNeg)) hx hb hr (fun t9 ht hW => ⟨⟨(waits c1.toNatClampNeg), (), rfl, hR.symm, by rw [ht]; exact hP, hD⟩, hS.F ht⟩) hS.2.2 d_Gov_core_69).mono hQ
      · have hR := hR.trans (if_neg hsw3)
        refine lv_tableOut (tgt := 70) hx hb d_Gov_core_15 (sw_out3 hsw1 hsw2 hsw3) (by decide) ?_
        refine lv_aload_n hx hb d_Gov_core_70 rfl (lv_at hl 0 rfl) ?_
        refine va_get (D := D) (ci := 0) (v := .ref a_cores) (C := R_Gov) (T := F_Gov) (N := 6) hx hb (u_Gov zh hZ) (fun _ h => h) hown hK hP 0 rfl rfl 3 (by decide) (wd zh hZ 208 q_208 rfl) (fun _ h9 => h9) rfl d_Gov_core_71 ?_
        refine lv_iload_n hx hb d_Gov_core_74 rfl (lv_at hl 1 rfl) ?_
        refine lv_aload_n hx hb d_Gov_core_75 rfl (lv_at hl 0 rfl) ?_
        refine va_get (D := D) (ci := 0) (v := .ref a_chip) (C := R_Gov) (T := F_Gov) (N := 6) hx hb (u_Gov zh hZ) (fun _ h => h) hown hK hP 0 rfl rfl 0 (by decide) (wd zh hZ 205 q_205 rfl) (fun _ h9 => h9) rfl d_Gov_core_76 ?_
        refine ke_i (S := Unit) (fun uu => [(a_gov, .inr (0, [.ref a_chip, .ref a_outlook, .ref a_nodes, .ref a_cores, .ref a_looked, .int sealed])), (a_chip, .inr (1, [.ref a_lowCap, .ref a_highCap, .ref a_truCap, .ref a_lowE, .ref a_highE, .ref a_truE, .ref a_lim, .ref a_powr, .int trueAir, .int highAir, .int leakBase, .int leakSlope, .int leakSteep, .int leakKnee, .ref a_grow])), (a_powr, .inl (cI, 4, .inl powr)), (a_cores, .inr (4, [.ref a_steps, .ref a_wishes, .ref a_ranks, .ref a_waits, .ref a_told, .ref a_grants, .int ticksHeld])), (a_steps, .inl (cI, 4, .inl steps)), (a_wishes, .inl (cI, 4, .inl wishes)), (a_waits, .inl (cI, 4, .inl waits)), (a_told, .inl (cI, 4, .inl told))]) (kr_V (As := [.int (nI c1.toNatClampNeg), .ref a_chip]) (b := a_cores) (rest := []) (C := R_Cores) hx hb hml hown hZ (c_trueDraw l zh D cI cZ cJ a_cores a_steps a_wishes a_ranks a_waits a_told a_grants a_chip a_lowCap a_highCap a_truCap a_lowE a_highE a_truE a_lim a_powr a_grow _ ticksHeld steps told trueAir highAir leakBase leakSlope leakSteep leakKnee powr c1.toNatClampNeg (by omega) hst) (s_Gov_179_Cores_trueDraw zh hZ) (wd zh hZ 538 q_538 rfl) (wd zh hZ 539 q_539 rfl) ⟨rfl, rfl, by decide, by decide⟩ (va_recv hK hP (ci := 4) rfl (q0 := 3) rfl) (hP.sub [3, 4, 7, 1, 2] rfl) hK (hD.sub [3, 4, 7, 1, 2] (by decide) rfl) rfl hl.1 rfl (Nat.le_of_ble_eq_true rfl) d_Gov_core_79 (Nat.zero_le _) (Nat.zero_le _)) hP hD hS hA 8 [3, 4, 7, 1, 2] [0, 5, 6] rfl (fun _ => rfl) (fun _ => rfl) (by decide) (by decide) (fun _ => rfl) (fun _ => rfl) rfl (fun rr uu H locs hu hP hD hS => ?_)
        subst hu
        have hP : va_P D classes [(a_gov, .inr (0, [.ref a_chip, .ref a_outlook, .ref a_nodes, .ref a_cores, .ref a_looked, .int sealed])), (a_chip, .inr (1, [.ref a_lowCap, .ref a_highCap, .ref a_truCap, .ref a_lowE, .ref a_highE, .ref a_truE, .ref a_lim, .ref a_powr, .int trueAir, .int highAir, .int leakBase, .int leakSlope, .int leakSteep, .int leakKnee, .ref a_grow])), (a_powr, .inl (cI, 4, .inl powr)), (a_cores, .inr (4, [.ref a_steps, .ref a_wishes, .ref a_ranks, .ref a_waits, .ref a_told, .ref a_grants, .int ticksHeld])), (a_steps, .inl (cI, 4, .inl steps)), (a_wishes, .inl (cI, 4, .inl wishes)), (a_waits, .inl (cI, 4, .inl waits)), (a_told, .inl (cI, 4, .inl told))] H := hP
        have hD : va_D A [(a_gov, .inr (0, [.ref a_chip, .ref a_outlook, .ref a_nodes, .ref a_cores, .ref a_looked, .int sealed])), (a_chip, .inr (1, [.ref a_lowCap, .ref a_highCap, .ref a_truCap, .ref a_lowE, .ref a_highE, .ref a_truE, .ref a_lim, .ref a_powr, .int trueAir, .int highAir, .int leakBase, .int leakSlope, .int leakSteep, .int leakKnee, .ref a_grow])), (a_powr, .inl (cI, 4, .inl powr)), (a_cores, .inr (4, [.ref a_steps, .ref a_wishes, .ref a_ranks, .ref a_waits, .ref a_told, .ref a_grants, .int ticksHeld])), (a_steps, .inl (cI, 4, .inl steps)), (a_wishes, .inl (cI, 4, .inl wishes)), (a_waits, .inl (cI, 4, .inl waits)), (a_told, .inl (cI, 4, .inl told))] := hD
        exact (W.iret (v := (p_trueDraw steps told powr c1.toNatClampNeg)) hx hb hr (fun t9 ht hW => ⟨⟨(p_trueDraw steps told powr c1.toNatClampNeg), (), rfl, hR.symm, by rw [ht]; exact hP, hD⟩, hS.F ht⟩) hS.2.2 d_Gov_core_82).mono hQ

def p_withNeighbours_13 (highE : Nat → Int32) (places : Int32) (k : Nat) : Nat → Nat → Int32 → Int32
  | 0, k2, acc2 => acc2
  | r2 + 1, k2, acc2 => if (places &&& ((nI 1) <<< ((nI k) &&& 31))) = 0 then (p_withNeighbours_13 highE places k r2 (k2 + 1) acc2) else (if (highE (k * 7 + k2)) ≤ 0 then (p_withNeighbours_13 highE places k r2 (k2 + 1) acc2) else (p_withNeighbours_13 highE places k r2 (k2 + 1) (acc2 ||| ((nI 1) <<< ((nI k2) &&& 31)))))
def p_withNeighbours_4 (highE : Nat → Int32) (places : Int32) : Nat → Nat → Int32 → Int32
  | 0, k, acc => acc
  | r + 1, k, acc => ap1 (p_withNeighbours_13 highE places k 7 0 acc) (fun acc2 => (p_withNeighbours_4 highE places r (k + 1) acc2))
def p_withNeighbours (highE : Nat → Int32) (places : Int32) : Int32 := p_withNeighbours_4 highE places 7 0 places
set_option maxHeartbeats 1000000 in
set_option maxRecDepth 100000 in
theorem c_withNeighbours (l : Launch) {z : State} {za : Array Value} (zh : ∀ w ∈ lw_tbl, w.before za z = true) (D : va_G) (cI cZ cJ : ClassId) (a_chip : Nat) (a_lowCap : Nat) (a_highCap : Nat) (a_truCap : Nat) (a_lowE : Nat) (a_highE : Nat) (a_truE : Nat) (a_lim : Nat) (a_powr : Nat) (a_grow : Nat) (sz : Nat) (trueAir : Int32) (highAir : Int32) (leakBase : Int32) (leakSlope : Int32) (leakSteep : Int32) (leakKnee : Int32) (highE : Nat → Int32) (places : Int32) :
    Met l y_Chip_withNeighbours [Cond.code y_Chip_withNeighbours prog_2_method_8_code 5 (some .int)] { frames := 1, cells := 0, slots := 0, locals := 21 } (va_Pc [.ref a_chip, .int places] (PreW z D classes cI cZ cJ sz [(a_chip, .inr (1, [.ref a_lowCap, .ref a_highCap, .ref a_truCap, .ref a_lowE, .ref a_highE, .ref a_truE, .ref a_lim, .ref a_powr, .int trueAir, .int highAir, .int leakBase, .int leakSlope, .int leakSteep, .int leakKnee, .ref a_grow])), (a_highE, .inl (cI, 49, .inl highE))])) (va_Qi (fun (r : Int32) (_ : Unit) => r = p_withNeighbours highE places) (fun u => PostW D classes (va_A [(a_chip, .inr (1, [.ref a_lowCap, .ref a_highCap, .ref a_truCap, .ref a_lowE, .ref a_highE, .ref a_truE, .ref a_lim, .ref a_powr, .int trueAir, .int highAir, .int leakBase, .int leakSlope, .int leakSteep, .int leakKnee, .ref a_grow])), (a_highE, .inl (cI, 49, .inl highE))] sz) [(a_chip, .inr (1, [.ref a_lowCap, .ref a_highCap, .ref a_truCap, .ref a_lowE, .ref a_highE, .ref a_truE, .ref a_lim, .ref a_powr, .int trueAir, .int highAir, .int leakBase, .int leakSlope, .int leakSteep, .int leakKnee, .ref a_grow])), (a_highE, .inl (cI, 49, .inl highE))]) (va_A [(a_chip, .inr (1, [.ref a_lowCap, .ref a_highCap, .ref a_truCap, .ref a_lowE, .ref a_highE, .ref a_truE, .ref a_lim, .ref a_powr, .int trueAir, .int highAir, .int leakBase, .int leakSlope, .int leakSteep, .int leakKnee, .ref a_grow])), (a_highE, .inl (cI, 49, .inl highE))] sz)) 0 0 (va_A [(a_chip, .inr (1, [.ref a_lowCap, .ref a_highCap, .ref a_truCap, .ref a_lowE, .ref a_highE, .ref a_truE, .ref a_lim, .ref a_powr, .int trueAir, .int highAir, .int leakBase, .int leakSlope, .int leakSteep, .int leakKnee, .ref a_grow])), (a_highE, .inl (cI, 49, .inl highE))] sz) := by
  refine Met.ofQ (cc := prog_2_method_8_code) (maxL := 5) (ret := (some .int)) (by decide +kernel) rfl ?_
  intro p e s m args below meth c s₁ Q B hml hv hQ
  obtain ⟨rfl, rfl, hZ, hP, hK, hD0⟩ := hv
  have hx := B.exec
  have hb := B.bytes
  have hr := B.returns
  have hown : s.vm.findClass R_Chip = some m.cls := findClass_of_methodNamed B.named
  have hlocks := B.notSynchronized
  clear B
  have hD := hD0.self (sz := s.heap.size)
  generalize hAe : va_A [(a_chip, .inr (1, [.ref a_lowCap, .ref a_highCap, .ref a_truCap, .ref a_lowE, .ref a_highE, .ref a_truE, .ref a_lim, .ref a_powr, .int trueAir, .int highAir, .int leakBase, .int leakSlope, .int leakSteep, .int leakKnee, .ref a_grow])), (a_highE, .inl (cI, 49, .inl highE))] s.heap.size = A at hD hQ
  have hA : ∀ q : Nat, s.heap.size ≤ q → A q := fun q h => by rw [← hAe]; exact Or.inr h
  clear hAe hD0
  have hS : va_S A s.heap s.heap [] := va_S.rf
  have hl := lv_entry ([.ref a_chip, .int places]) (n := 5) (Nat.le_of_ble_eq_true rfl)
  rw [lg_entry_eq]
  generalize (lg_sl ([.ref a_chip, .int places]) ++ List.replicate (5 - (lg_sl ([.ref a_chip, .int places])).length) Slot.unset).toArray = ls at hl ⊢
  have hl : lv_has ls 5 [(0, .ref a_chip), (1, .int places)] := hl
  have hR : p_withNeighbours highE places = (p_withNeighbours_4 highE places 7 0 places) := rfl
  refine lv_iload_n hx hb d_Chip_withNeighbours_0 rfl (lv_at hl 1 rfl) ?_
  refine lv_istore_n (lv' := [(2, .int places), (0, .ref a_chip), (1, .int places)]) hx hb d_Chip_withNeighbours_1 rfl hl (by decide) rfl (fun ls hl => ?_)
  refine lv_iconst (v := nI 0) hx hb d_Chip_withNeighbours_2 (by decide) ?_
  refine lv_istore_n (lv' := [(3, .int (nI 0)), (2, .int places), (0, .ref a_chip), (1, .int places)]) hx hb d_Chip_withNeighbours_3 rfl hl (by decide) rfl (fun ls hl => ?_)
  have key4 : ∀ (r : Nat) (k : Nat) (acc : Int32) (ls : Array Slot) (H : Heap) (locs : List Loc), k + r = 7 → lv_has ls 5 [(0, .ref a_chip), (1, .int places), (2, .int acc), (3, .int (nI k))] → va_P D classes [(a_chip, .inr (1, [.ref a_lowCap, .ref a_highCap, .ref a_truCap, .ref a_lowE, .ref a_highE, .ref a_truE, .ref a_lim, .ref a_powr, .int trueAir, .int highAir, .int leakBase, .int leakSlope, .int leakSteep, .int leakKnee, .ref a_grow])), (a_highE, .inl (cI, 49, .inl highE))] H → va_D A [(a_chip, .inr (1, [.ref a_lowCap, .ref a_highCap, .ref a_truCap, .ref a_lowE, .ref a_highE, .ref a_truE, .ref a_lim, .ref a_powr, .int trueAir, .int highAir, .int leakBase, .int leakSlope, .int leakSteep, .int leakKnee, .ref a_grow])), (a_highE, .inl (cI, 49, .inl highE))] → va_S A s.heap H locs → p_withNeighbours highE places = p_withNeighbours_4 highE places r k acc → W p l e { frames := 1, cells := 0, slots := 0, locals := 21 } s m ([.ref a_chip, .int places]).toArray below meth c H locs 0 0 Q (F0 m 4 ls []) := by
    intro r
    induction r with
    | zero =>
      intro k acc ls H locs hk hl hP hD hS hR
      obtain rfl : k = 7 := by omega
      have hR : p_withNeighbours highE places = (acc) := hR.trans rfl
      refine lv_iload_n hx hb d_Chip_withNeighbours_4 rfl (lv_at hl 3 rfl) ?_
      refine lv_bipush (v := nI 7) hx hb d_Chip_withNeighbours_5 (by decide) ?_
      refine nn_icmp_ge (tgt := 61) hx hb (by omega) (by omega) d_Chip_withNeighbours_7 (by decide) (fun _ => ?_) (fun h => absurd (by omega) h)
      refine lv_iload_n hx hb d_Chip_withNeighbours_61 rfl (lv_at hl 2 rfl) ?_
      exact (W.iret (v := acc) hx hb hr (fun t9 ht hW => ⟨⟨acc, (), rfl, hR.symm, by rw [ht]; exact hP, hD⟩, hS.F ht⟩) hS.2.2 d_Chip_withNeighbours_62).mono hQ
    | succ r ih =>
      intro k acc ls H locs hk hl hP hD hS hR
      have hk1 : k < 7 := by omega
      have hR : p_withNeighbours highE places = (ap1 (p_withNeighbours_13 highE places k 7 0 acc) (fun acc2 => (p_withNeighbours_4 highE places r (k + 1) acc2))) := hR.trans rfl
      refine lv_iload_n hx hb d_Chip_withNeighbours_4 rfl (lv_at hl 3 rfl) ?_
      refine lv_bipush (v := nI 7) hx hb d_Chip_withNeighbours_5 (by decide) ?_
      refine nn_icmp_ge (tgt := 61) hx hb (by omega) (by omega) d_Chip_withNeighbours_7 (by decide) (fun h => absurd h (by omega)) (fun _ => ?_)
      refine lv_iconst (v := nI 0) hx hb d_Chip_withNeighbours_10 (by decide) ?_
      refine lv_istore (lv' := [(4, .int (nI 0)), (0, .ref a_chip), (1, .int places), (2, .int acc), (3, .int (nI k))]) hx hb d_Chip_withNeighbours_11 hl (by decide) rfl (fun ls hl => ?_)
      have key13 : ∀ (r2 : Nat) (k2 : Nat) (acc2 : Int32) (ls : Array Slot) (H : Heap) (locs : List Loc), k2 + r2 = 7 → lv_has ls 5 [(0, .ref a_chip), (1, .int places), (2, .int acc2), (3, .int (nI k)), (4, .int (nI k2))] → va_P D classes [(a_chip, .inr (1, [.ref a_lowCap, .ref a_highCap, .ref a_truCap, .ref a_lowE, .ref a_highE, .ref a_truE, .ref a_lim, .ref a_powr, .int trueAir, .int highAir, .int leakBase, .int leakSlope, .int leakSteep, .int leakKnee, .ref a_grow])), (a_highE, .inl (cI, 49, .inl highE))] H → va_D A [(a_chip, .inr (1, [.ref a_lowCap, .ref a_highCap, .ref a_truCap, .ref a_lowE, .ref a_highE, .ref a_truE, .ref a_lim, .ref a_powr, .int trueAir, .int highAir, .int leakBase, .int leakSlope, .int leakSteep, .int leakKnee, .ref a_grow])), (a_highE, .inl (cI, 49, .inl highE))] → va_S A s.heap H locs → p_withNeighbours highE places = ap1 (p_withNeighbours_13 highE places k r2 k2 acc2) (fun acc2 => (p_withNeighbours_4 highE places r (k + 1) acc2)) → W p l e { frames := 1, cells := 0, slots := 0, locals := 21 } s m ([.ref a_chip, .int places]).toArray below meth c H locs 0 0 Q (F0 m 13 ls []) := by
        intro r2
        induction r2 with
        | zero =>
          intro k2 acc2 ls H locs hk hl hP hD hS hR
          obtain rfl : k2 = 7 := by omega
          have hR : p_withNeighbours highE places = (p_withNeighbours_4 highE places r (k + 1) acc2) := hR.trans rfl
          refine lv_iload hx hb d_Chip_withNeighbours_13 (lv_at hl 4 rfl) ?_
          refine lv_bipush (v := nI 7) hx hb d_Chip_withNeighbours_15 (by decide) ?_
          refine nn_icmp_ge (tgt := 55) hx hb (by omega) (by omega) d_Chip_withNeighbours_17 (by decide) (fun _ => ?_) (fun h => absurd (by omega) h)
          refine lv_iinc (k := 3) (v := nI (k + 1)) (lv' := [(3, .int (nI (k + 1))), (0, .ref a_chip), (1, .int places), (2, .int acc2), (4, .int (nI 7))]) hx hb d_Chip_withNeighbours_55 hl rfl (by rw [show Int32.ofInt 1 = nI 1 from by decide, nI_add]) (by decide) rfl (fun ls hl => ?_)
          refine lv_goto (tgt := 4) hx hb d_Chip_withNeighbours_58 (by decide) ?_
          exact ih (k + 1) acc2 _ _ _ (by omega) (lv_sub hl [1, 2, 3, 0] rfl) hP hD hS hR
        | succ r2 ih =>
          intro k2 acc2 ls H locs hk hl hP hD hS hR
          have hk1 : k2 < 7 := by omega
          have hR : p_withNeighbours highE places = ap1 ((if (places &&& ((nI 1) <<< ((nI k) &&& 31))) = 0 then (p_withNeighbours_13 highE places k r2 (k2 + 1) acc2) else (if (highE (k * 7 + k2)) ≤ 0 then (p_withNeighbours_13 highE places k r2 (k2 + 1) acc2) else (p_withNeighbours_13 highE places k r2 (k2 + 1) (acc2 ||| ((nI 1) <<< ((nI k2) &&& 31))))))) (fun acc2 => (p_withNeighbours_4 highE places r (k + 1) acc2)) := hR.trans rfl
          refine lv_iload hx hb d_Chip_withNeighbours_13 (lv_at hl 4 rfl) ?_
          refine lv_bipush (v := nI 7) hx hb d_Chip_withNeighbours_15 (by decide) ?_
          refine nn_icmp_ge (tgt := 55) hx hb (by omega) (by omega) d_Chip_withNeighbours_17 (by decide) (fun h => absurd h (by omega)) (fun _ => ?_)
          refine lv_iload_n hx hb d_Chip_withNeighbours_20 rfl (lv_at hl 1 rfl) ?_
          refine lv_iconst (v := nI 1) hx hb d_Chip_withNeighbours_21 (by decide) ?_
          refine lv_iload_n hx hb d_Chip_withNeighbours_22 rfl (lv_at hl 3 rfl) ?_
          refine lv_ishl hx hb d_Chip_withNeighbours_23 ?_
          refine lv_iand hx hb d_Chip_withNeighbours_24 ?_
          refine lv_if_eq (tgt := 49) hx hb d_Chip_withNeighbours_25 (by decide) (fun h1 => ?_) (fun h1 => ?_)
          · have hR := hR.trans (congrArg (fun x_13 => ap1 x_13 (fun acc2 => (p_withNeighbours_4 highE places r (k + 1) acc2))) (if_pos h1))
            refine lv_iinc (k := 4) (v := nI (k2 + 1)) (lv' := [(4, .int (nI (k2 + 1))), (0, .ref a_chip), (1, .int places), (2, .int acc2), (3, .int (nI k))]) hx hb d_Chip_withNeighbours_49 hl rfl (by rw [show Int32.ofInt 1 = nI 1 from by decide, nI_add]) (by decide) rfl (fun ls hl => ?_)
            refine lv_goto (tgt := 13) hx hb d_Chip_withNeighbours_52 (by decide) ?_
            exact ih (k2 + 1) acc2 _ _ _ (by omega) (lv_sub hl [1, 2, 3, 4, 0] rfl) hP hD hS hR
          · have hR := hR.trans (congrArg (fun x_13 => ap1 x_13 (fun acc2 => (p_withNeighbours_4 highE places r (k + 1) acc2))) (if_neg h1))
            refine lv_aload_n hx hb d_Chip_withNeighbours_28 rfl (lv_at hl 0 rfl) ?_
            refine va_get (D := D) (ci := 1) (v := .ref a_highE) (C := R_Chip) (T := F_Chip) (N := 15) hx hb (u_Chip zh hZ) (fun _ h => h) hown hK hP 0 rfl rfl 4 (by decide) (wd zh hZ 76 q_76 rfl) (fun _ h9 => h9) rfl d_Chip_withNeighbours_29 ?_
            refine lv_iload_n hx hb d_Chip_withNeighbours_32 rfl (lv_at hl 3 rfl) ?_
            refine lv_iload hx hb d_Chip_withNeighbours_33 (lv_at hl 4 rfl) ?_
            refine ke_i (S := Unit) (fun uu => [(a_chip, .inr (1, [.ref a_lowCap, .ref a_highCap, .ref a_truCap, .ref a_lowE, .ref a_highE, .ref a_truE, .ref a_lim, .ref a_powr, .int trueAir, .int highAir, .int leakBase, .int leakSlope, .int leakSteep, .int leakKnee, .ref a_grow])), (a_highE, .inl (cI, 49, .inl highE))]) (kr_SN (As := [.int (nI k), .int (nI k2)]) (rest := [.ref a_highE]) hx hb hml hown hZ (c_between l zh D cI cZ cJ _ k k2) (s_Chip_59_Gov_between zh hZ) (wd zh hZ 358 q_358 rfl) ⟨rfl, rfl, by decide, by decide⟩ (hP.sub [] rfl) hK (hD.sub [] (by decide) rfl) rfl hl.1 rfl (Nat.le_of_ble_eq_true rfl) d_Chip_withNeighbours_35 (Nat.zero_le _) (Nat.zero_le _)) hP hD hS hA 2 [] [0, 1] rfl (fun _ => rfl) (fun _ => rfl) (by decide) (by decide) (fun _ => rfl) (fun _ => rfl) rfl (fun rr uu H locs hu hP hD hS => ?_)
            subst hu
            have hP : va_P D classes [(a_chip, .inr (1, [.ref a_lowCap, .ref a_highCap, .ref a_truCap, .ref a_lowE, .ref a_highE, .ref a_truE, .ref a_lim, .ref a_powr, .int trueAir, .int highAir, .int leakBase, .int leakSlope, .int leakSteep, .int leakKnee, .ref a_grow])), (a_highE, .inl (cI, 49, .inl highE))] H := hP
            have hD : va_D A [(a_chip, .inr (1, [.ref a_lowCap, .ref a_highCap, .ref a_truCap, .ref a_lowE, .ref a_highE, .ref a_truE, .ref a_lim, .ref a_powr, .int trueAir, .int highAir, .int leakBase, .int leakSlope, .int leakSteep, .int leakKnee, .ref a_grow])), (a_highE, .inl (cI, 49, .inl highE))] := hD
            refine nn_eq (rfl) ?_
            refine nn_iald hx hb hK hP 1 0 rfl rfl (j := k * 7 + k2) (by omega) (by decide) d_Chip_withNeighbours_38 ?_
            refine lv_if_le (tgt := 49) hx hb d_Chip_withNeighbours_39 (by decide) (fun h2 => ?_) (fun h2 => ?_)
            · have hR := hR.trans (congrArg (fun x_13 => ap1 x_13 (fun acc2 => (p_withNeighbours_4 highE places r (k + 1) acc2))) (if_pos h2))
              refine lv_iinc (k := 4) (v := nI (k2 + 1)) (lv' := [(4, .int (nI (k2 + 1))), (0, .ref a_chip), (1, .int places), (2, .int acc2), (3, .int (nI k))]) hx hb d_Chip_withNeighbours_49 hl rfl (by rw [show Int32.ofInt 1 = nI 1 from by decide, nI_add]) (by decide) rfl (fun ls hl => ?_)
              refine lv_goto (tgt := 13) hx hb d_Chip_withNeighbours_52 (by decide) ?_
              exact ih (k2 + 1) acc2 _ _ _ (by omega) (lv_sub hl [1, 2, 3, 4, 0] rfl) hP hD hS hR
            · have hR := hR.trans (congrArg (fun x_13 => ap1 x_13 (fun acc2 => (p_withNeighbours_4 highE places r (k + 1) acc2))) (if_neg h2))
              refine lv_iload_n hx hb d_Chip_withNeighbours_42 rfl (lv_at hl 2 rfl) ?_
              refine lv_iconst (v := nI 1) hx hb d_Chip_withNeighbours_43 (by decide) ?_
              refine lv_iload hx hb d_Chip_withNeighbours_44 (lv_at hl 4 rfl) ?_
              refine lv_ishl hx hb d_Chip_withNeighbours_46 ?_
              refine lv_ior hx hb d_Chip_withNeighbours_47 ?_
              refine lv_istore_n (lv' := [(2, .int (acc2 ||| ((nI 1) <<< ((nI k2) &&& 31)))), (0, .ref a_chip), (1, .int places), (3, .int (nI k)), (4, .int (nI k2))]) hx hb d_Chip_withNeighbours_48 rfl hl (by decide) rfl (fun ls hl => ?_)
              refine lv_iinc (k := 4) (v := nI (k2 + 1)) (lv' := [(4, .int (nI (k2 + 1))), (2, .int (acc2 ||| ((nI 1) <<< ((nI k2) &&& 31)))), (0, .ref a_chip), (1, .int places), (3, .int (nI k))]) hx hb d_Chip_withNeighbours_49 hl rfl (by rw [show Int32.ofInt 1 = nI 1 from by decide, nI_add]) (by decide) rfl (fun ls hl => ?_)
              refine lv_goto (tgt := 13) hx hb d_Chip_withNeighbours_52 (by decide) ?_
              exact ih (k2 + 1) (acc2 ||| ((nI 1) <<< ((nI k2) &&& 31))) _ _ _ (by omega) (lv_sub hl [2, 3, 1, 4, 0] rfl) hP hD hS hR
      exact key13 7 0 acc _ _ _ (by omega) (lv_sub hl [1, 2, 3, 4, 0] rfl) hP hD hS hR
  exact key4 7 0 places _ _ _ (by omega) (lv_sub hl [2, 3, 1, 0] rfl) hP hD hS hR
def p_isJoined_5 (highE : Nat → Int32) : Nat → Nat → Int32 → Int32
  | 0, k, seen => if seen = (nI 127) then (nI 1) else (nI 0)
  | r + 1, k, seen => p_isJoined_5 highE r (k + 1) (p_withNeighbours highE seen)
def p_isJoined (highE : Nat → Int32) : Int32 := p_isJoined_5 highE 6 0 (nI 64)
set_option maxHeartbeats 1000000 in
set_option maxRecDepth 100000 in
theorem c_isJoined (l : Launch) {z : State} {za : Array Value} (zh : ∀ w ∈ lw_tbl, w.before za z = true) (D : va_G) (cI cZ cJ : ClassId) (a_chip : Nat) (a_lowCap : Nat) (a_highCap : Nat) (a_truCap : Nat) (a_lowE : Nat) (a_highE : Nat) (a_truE : Nat) (a_lim : Nat) (a_powr : Nat) (a_grow : Nat) (sz : Nat) (trueAir : Int32) (highAir : Int32) (leakBase : Int32) (leakSlope : Int32) (leakSteep : Int32) (leakKnee : Int32) (highE : Nat → Int32) :
    Met l y_Chip_isJoined [Cond.code y_Chip_isJoined prog_2_method_7_code 3 (some .boolean)] { frames := 2, cells := 0, slots := 0, locals := 45 } (va_Pc [.ref a_chip] (PreW z D classes cI cZ cJ sz [(a_chip, .inr (1, [.ref a_lowCap, .ref a_highCap, .ref a_truCap, .ref a_lowE, .ref a_highE, .ref a_truE, .ref a_lim, .ref a_powr, .int trueAir, .int highAir, .int leakBase, .int leakSlope, .int leakSteep, .int leakKnee, .ref a_grow])), (a_highE, .inl (cI, 49, .inl highE))])) (va_Qi (fun (r : Int32) (_ : Unit) => r = p_isJoined highE) (fun u => PostW D classes (va_A [(a_chip, .inr (1, [.ref a_lowCap, .ref a_highCap, .ref a_truCap, .ref a_lowE, .ref a_highE, .ref a_truE, .ref a_lim, .ref a_powr, .int trueAir, .int highAir, .int leakBase, .int leakSlope, .int leakSteep, .int leakKnee, .ref a_grow])), (a_highE, .inl (cI, 49, .inl highE))] sz) [(a_chip, .inr (1, [.ref a_lowCap, .ref a_highCap, .ref a_truCap, .ref a_lowE, .ref a_highE, .ref a_truE, .ref a_lim, .ref a_powr, .int trueAir, .int highAir, .int leakBase, .int leakSlope, .int leakSteep, .int leakKnee, .ref a_grow])), (a_highE, .inl (cI, 49, .inl highE))]) (va_A [(a_chip, .inr (1, [.ref a_lowCap, .ref a_highCap, .ref a_truCap, .ref a_lowE, .ref a_highE, .ref a_truE, .ref a_lim, .ref a_powr, .int trueAir, .int highAir, .int leakBase, .int leakSlope, .int leakSteep, .int leakKnee, .ref a_grow])), (a_highE, .inl (cI, 49, .inl highE))] sz)) 0 0 (va_A [(a_chip, .inr (1, [.ref a_lowCap, .ref a_highCap, .ref a_truCap, .ref a_lowE, .ref a_highE, .ref a_truE, .ref a_lim, .ref a_powr, .int trueAir, .int highAir, .int leakBase, .int leakSlope, .int leakSteep, .int leakKnee, .ref a_grow])), (a_highE, .inl (cI, 49, .inl highE))] sz) := by
  refine Met.ofQ (cc := prog_2_method_7_code) (maxL := 3) (ret := (some .boolean)) (by decide +kernel) rfl ?_
  intro p e s m args below meth c s₁ Q B hml hv hQ
  obtain ⟨rfl, rfl, hZ, hP, hK, hD0⟩ := hv
  have hx := B.exec
  have hb := B.bytes
  have hr := B.returns
  have hown : s.vm.findClass R_Chip = some m.cls := findClass_of_methodNamed B.named
  have hlocks := B.notSynchronized
  clear B
  have hD := hD0.self (sz := s.heap.size)
  generalize hAe : va_A [(a_chip, .inr (1, [.ref a_lowCap, .ref a_highCap, .ref a_truCap, .ref a_lowE, .ref a_highE, .ref a_truE, .ref a_lim, .ref a_powr, .int trueAir, .int highAir, .int leakBase, .int leakSlope, .int leakSteep, .int leakKnee, .ref a_grow])), (a_highE, .inl (cI, 49, .inl highE))] s.heap.size = A at hD hQ
  have hA : ∀ q : Nat, s.heap.size ≤ q → A q := fun q h => by rw [← hAe]; exact Or.inr h
  clear hAe hD0
  have hS : va_S A s.heap s.heap [] := va_S.rf
  have hl := lv_entry ([.ref a_chip]) (n := 3) (Nat.le_of_ble_eq_true rfl)
  rw [lg_entry_eq]
  generalize (lg_sl ([.ref a_chip]) ++ List.replicate (3 - (lg_sl ([.ref a_chip])).length) Slot.unset).toArray = ls at hl ⊢
  have hl : lv_has ls 3 [(0, .ref a_chip)] := hl
  have hR : p_isJoined highE = (p_isJoined_5 highE 6 0 (nI 64)) := rfl
  refine lv_bipush (v := nI 64) hx hb d_Chip_isJoined_0 (by decide) ?_
  refine lv_istore_n (lv' := [(1, .int (nI 64)), (0, .ref a_chip)]) hx hb d_Chip_isJoined_2 rfl hl (by decide) rfl (fun ls hl => ?_)
  refine lv_iconst (v := nI 0) hx hb d_Chip_isJoined_3 (by decide) ?_
  refine lv_istore_n (lv' := [(2, .int (nI 0)), (1, .int (nI 64)), (0, .ref a_chip)]) hx hb d_Chip_isJoined_4 rfl hl (by decide) rfl (fun ls hl => ?_)
  have key5 : ∀ (r : Nat) (k : Nat) (seen : Int32) (ls : Array Slot) (H : Heap) (locs : List Loc), k + r = 6 → lv_has ls 3 [(0, .ref a_chip), (1, .int seen), (2, .int (nI k))] → va_P D classes [(a_chip, .inr (1, [.ref a_lowCap, .ref a_highCap, .ref a_truCap, .ref a_lowE, .ref a_highE, .ref a_truE, .ref a_lim, .ref a_powr, .int trueAir, .int highAir, .int leakBase, .int leakSlope, .int leakSteep, .int leakKnee, .ref a_grow])), (a_highE, .inl (cI, 49, .inl highE))] H → va_D A [(a_chip, .inr (1, [.ref a_lowCap, .ref a_highCap, .ref a_truCap, .ref a_lowE, .ref a_highE, .ref a_truE, .ref a_lim, .ref a_powr, .int trueAir, .int highAir, .int leakBase, .int leakSlope, .int leakSteep, .int leakKnee, .ref a_grow])), (a_highE, .inl (cI, 49, .inl highE))] → va_S A s.heap H locs → p_isJoined highE = p_isJoined_5 highE r k seen → W p l e { frames := 2, cells := 0, slots := 0, locals := 45 } s m ([.ref a_chip]).toArray below meth c H locs 0 0 Q (F0 m 5 ls []) := by
    intro r
    induction r with
    | zero =>
      intro k seen ls H locs hk hl hP hD hS hR
      obtain rfl : k = 6 := by omega
      have hR : p_isJoined highE = (if seen = (nI 127) then (nI 1) else (nI 0)) := hR.trans rfl
      refine lv_iload_n hx hb d_Chip_isJoined_5 rfl (lv_at hl 2 rfl) ?_
      refine lv_bipush (v := nI 6) hx hb d_Chip_isJoined_6 (by decide) ?_
      refine nn_icmp_ge (tgt := 23) hx hb (by omega) (by omega) d_Chip_isJoined_8 (by decide) (fun _ => ?_) (fun h => absurd (by omega) h)
      refine lv_iload_n hx hb d_Chip_isJoined_23 rfl (lv_at hl 1 rfl) ?_
      refine lv_bipush (v := nI 127) hx hb d_Chip_isJoined_24 (by decide) ?_
      refine lv_icmp_ne (tgt := 33) hx hb d_Chip_isJoined_26 (by decide) (fun h1 => ?_) (fun h1 => ?_)
      · have hR := hR.trans (if_neg h1)
        refine lv_iconst (v := nI 0) hx hb d_Chip_isJoined_33 (by decide) ?_
        exact (W.zret (v := nI 0) (ty := .boolean) hx hb hr rfl (fun t9 ht hW => ⟨⟨nI 0, (), rfl, hR.symm, by rw [ht]; exact hP, hD⟩, hS.F ht⟩) hS.2.2 d_Chip_isJoined_34).mono hQ
      · have hR := hR.trans (if_pos h1)
        refine lv_iconst (v := nI 1) hx hb d_Chip_isJoined_29 (by decide) ?_
        refine lv_goto (tgt := 34) hx hb d_Chip_isJoined_30 (by decide) ?_
        exact (W.zret (v := nI 1) (ty := .boolean) hx hb hr rfl (fun t9 ht hW => ⟨⟨nI 1, (), rfl, hR.symm, by rw [ht]; exact hP, hD⟩, hS.F ht⟩) hS.2.2 d_Chip_isJoined_34).mono hQ
    | succ r ih =>
      intro k seen ls H locs hk hl hP hD hS hR
      have hk1 : k < 6 := by omega
      have hR : p_isJoined highE = (p_isJoined_5 highE r (k + 1) (p_withNeighbours highE seen)) := hR.trans rfl
      refine lv_iload_n hx hb d_Chip_isJoined_5 rfl (lv_at hl 2 rfl) ?_
      refine lv_bipush (v := nI 6) hx hb d_Chip_isJoined_6 (by decide) ?_
      refine nn_icmp_ge (tgt := 23) hx hb (by omega) (by omega) d_Chip_isJoined_8 (by decide) (fun h => absurd h (by omega)) (fun _ => ?_)
      refine lv_aload_n hx hb d_Chip_isJoined_11 rfl (lv_at hl 0 rfl) ?_
      refine lv_iload_n hx hb d_Chip_isJoined_12 rfl (lv_at hl 1 rfl) ?_
      refine ke_i (S := Unit) (fun uu => [(a_chip, .inr (1, [.ref a_lowCap, .ref a_highCap, .ref a_truCap, .ref a_lowE, .ref a_highE, .ref a_truE, .ref a_lim, .ref a_powr, .int trueAir, .int highAir, .int leakBase, .int leakSlope, .int leakSteep, .int leakKnee, .ref a_grow])), (a_highE, .inl (cI, 49, .inl highE))]) (kr_V (As := [.int seen]) (b := a_chip) (rest := []) (C := R_Chip) hx hb hml hown hZ (c_withNeighbours l zh D cI cZ cJ a_chip a_lowCap a_highCap a_truCap a_lowE a_highE a_truE a_lim a_powr a_grow _ trueAir highAir leakBase leakSlope leakSteep leakKnee highE seen) (s_Chip_79_Chip_withNeighbours zh hZ) (wd zh hZ 421 q_421 rfl) (wd zh hZ 2 q_2 rfl) ⟨rfl, rfl, by decide, by decide⟩ (va_recv hK hP (ci := 1) rfl (q0 := 0) rfl) (hP.sub [0, 1] rfl) hK (hD.sub [0, 1] (by decide) rfl) rfl hl.1 rfl (Nat.le_of_ble_eq_true rfl) d_Chip_isJoined_13 (Nat.zero_le _) (Nat.zero_le _)) hP hD hS hA 2 [0, 1] [] rfl (fun _ => rfl) (fun _ => rfl) (by decide) (by decide) (fun _ => rfl) (fun _ => rfl) rfl (fun rr uu H locs hu hP hD hS => ?_)
      subst hu
      have hP : va_P D classes [(a_chip, .inr (1, [.ref a_lowCap, .ref a_highCap, .ref a_truCap, .ref a_lowE, .ref a_highE, .ref a_truE, .ref a_lim, .ref a_powr, .int trueAir, .int highAir, .int leakBase, .int leakSlope, .int leakSteep, .int leakKnee, .ref a_grow])), (a_highE, .inl (cI, 49, .inl highE))] H := hP
      have hD : va_D A [(a_chip, .inr (1, [.ref a_lowCap, .ref a_highCap, .ref a_truCap, .ref a_lowE, .ref a_highE, .ref a_truE, .ref a_lim, .ref a_powr, .int trueAir, .int highAir, .int leakBase, .int leakSlope, .int leakSteep, .int leakKnee, .ref a_grow])), (a_highE, .inl (cI, 49, .inl highE))] := hD
      refine lv_istore_n (lv' := [(1, .int (p_withNeighbours highE seen)), (0, .ref a_chip), (2, .int (nI k))]) hx hb d_Chip_isJoined_16 rfl hl (by decide) rfl (fun ls hl => ?_)
      refine lv_iinc (k := 2) (v := nI (k + 1)) (lv' := [(2, .int (nI (k + 1))), (1, .int (p_withNeighbours highE seen)), (0, .ref a_chip)]) hx hb d_Chip_isJoined_17 hl rfl (by rw [show Int32.ofInt 1 = nI 1 from by decide, nI_add]) (by decide) rfl (fun ls hl => ?_)
      refine lv_goto (tgt := 5) hx hb d_Chip_isJoined_20 (by decide) ?_
      exact ih (k + 1) (p_withNeighbours highE seen) _ _ _ (by omega) (lv_sub hl [2, 1, 0] rfl) hP hD hS hR
  exact key5 6 0 (nI 64) _ _ _ (by omega) (lv_sub hl [2, 1, 0] rfl) hP hD hS hR
def p_isSteady_29 (highE : Nat → Int32) (k : Nat) : Nat → Nat → Int32 → Int32
  | 0, k2, pull => pull
  | r2 + 1, k2, pull => p_isSteady_29 highE k r2 (k2 + 1) (pull + (highE (k * 7 + k2)))
def p_isSteady_2 (leakSlope : Int32) (leakSteep : Int32) (highE : Nat → Int32) (lowCap : Nat → Int32) : Nat → Nat → Int32
  | 0, k => nI 1
  | r + 1, k => if 4 ≤ k then (ap1 (p_isSteady_29 highE k 7 0 (nI 0)) (fun pull => (if ((nI 2) * pull) ≤ (lowCap k) then (p_isSteady_2 leakSlope leakSteep highE lowCap r (k + 1)) else (nI 0)))) else (ap1 (p_isSteady_29 highE k 7 0 (leakSlope + leakSteep)) (fun pull => (if ((nI 2) * pull) ≤ (lowCap k) then (p_isSteady_2 leakSlope leakSteep highE lowCap r (k + 1)) else (nI 0))))
def p_isSteady (leakSlope : Int32) (leakSteep : Int32) (highE : Nat → Int32) (lowCap : Nat → Int32) : Int32 := p_isSteady_2 leakSlope leakSteep highE lowCap 6 0
set_option maxHeartbeats 1000000 in
set_option maxRecDepth 100000 in
theorem c_isSteady (l : Launch) {z : State} {za : Array Value} (zh : ∀ w ∈ lw_tbl, w.before za z = true) (D : va_G) (cI cZ cJ : ClassId) (a_chip : Nat) (a_lowCap : Nat) (a_highCap : Nat) (a_truCap : Nat) (a_lowE : Nat) (a_highE : Nat) (a_truE : Nat) (a_lim : Nat) (a_powr : Nat) (a_grow : Nat) (sz : Nat) (trueAir : Int32) (highAir : Int32) (leakBase : Int32) (leakSlope : Int32) (leakSteep : Int32) (leakKnee : Int32) (highE : Nat → Int32) (lowCap : Nat → Int32) :
    Met l y_Chip_isSteady [Cond.code y_Chip_isSteady prog_2_method_9_code 4 (some .boolean)] { frames := 1, cells := 0, slots := 0, locals := 21 } (va_Pc [.ref a_chip] (PreW z D classes cI cZ cJ sz [(a_chip, .inr (1, [.ref a_lowCap, .ref a_highCap, .ref a_truCap, .ref a_lowE, .ref a_highE, .ref a_truE, .ref a_lim, .ref a_powr, .int trueAir, .int highAir, .int leakBase, .int leakSlope, .int leakSteep, .int leakKnee, .ref a_grow])), (a_highE, .inl (cI, 49, .inl highE)), (a_lowCap, .inl (cI, 6, .inl lowCap))])) (va_Qi (fun (r : Int32) (_ : Unit) => r = p_isSteady leakSlope leakSteep highE lowCap) (fun u => PostW D classes (va_A [(a_chip, .inr (1, [.ref a_lowCap, .ref a_highCap, .ref a_truCap, .ref a_lowE, .ref a_highE, .ref a_truE, .ref a_lim, .ref a_powr, .int trueAir, .int highAir, .int leakBase, .int leakSlope, .int leakSteep, .int leakKnee, .ref a_grow])), (a_highE, .inl (cI, 49, .inl highE)), (a_lowCap, .inl (cI, 6, .inl lowCap))] sz) [(a_chip, .inr (1, [.ref a_lowCap, .ref a_highCap, .ref a_truCap, .ref a_lowE, .ref a_highE, .ref a_truE, .ref a_lim, .ref a_powr, .int trueAir, .int highAir, .int leakBase, .int leakSlope, .int leakSteep, .int leakKnee, .ref a_grow])), (a_highE, .inl (cI, 49, .inl highE)), (a_lowCap, .inl (cI, 6, .inl lowCap))]) (va_A [(a_chip, .inr (1, [.ref a_lowCap, .ref a_highCap, .ref a_truCap, .ref a_lowE, .ref a_highE, .ref a_truE, .ref a_lim, .ref a_powr, .int trueAir, .int highAir, .int leakBase, .int leakSlope, .int leakSteep, .int leakKnee, .ref a_grow])), (a_highE, .inl (cI, 49, .inl highE)), (a_lowCap, .inl (cI, 6, .inl lowCap))] sz)) 0 0 (va_A [(a_chip, .inr (1, [.ref a_lowCap, .ref a_highCap, .ref a_truCap, .ref a_lowE, .ref a_highE, .ref a_truE, .ref a_lim, .ref a_powr, .int trueAir, .int highAir, .int leakBase, .int leakSlope, .int leakSteep, .int leakKnee, .ref a_grow])), (a_highE, .inl (cI, 49, .inl highE)), (a_lowCap, .inl (cI, 6, .inl lowCap))] sz) := by
  refine Met.ofQ (cc := prog_2_method_9_code) (maxL := 4) (ret := (some .boolean)) (by decide +kernel) rfl ?_
  intro p e s m args below meth c s₁ Q B hml hv hQ
  obtain ⟨rfl, rfl, hZ, hP, hK, hD0⟩ := hv
  have hx := B.exec
  have hb := B.bytes
  have hr := B.returns
  have hown : s.vm.findClass R_Chip = some m.cls := findClass_of_methodNamed B.named
  have hlocks := B.notSynchronized
  clear B
  have hD := hD0.self (sz := s.heap.size)
  generalize hAe : va_A [(a_chip, .inr (1, [.ref a_lowCap, .ref a_highCap, .ref a_truCap, .ref a_lowE, .ref a_highE, .ref a_truE, .ref a_lim, .ref a_powr, .int trueAir, .int highAir, .int leakBase, .int leakSlope, .int leakSteep, .int leakKnee, .ref a_grow])), (a_highE, .inl (cI, 49, .inl highE)), (a_lowCap, .inl (cI, 6, .inl lowCap))] s.heap.size = A at hD hQ
  have hA : ∀ q : Nat, s.heap.size ≤ q → A q := fun q h => by rw [← hAe]; exact Or.inr h
  clear hAe hD0
  have hS : va_S A s.heap s.heap [] := va_S.rf
  have hl := lv_entry ([.ref a_chip]) (n := 4) (Nat.le_of_ble_eq_true rfl)
  rw [lg_entry_eq]
  generalize (lg_sl ([.ref a_chip]) ++ List.replicate (4 - (lg_sl ([.ref a_chip])).length) Slot.unset).toArray = ls at hl ⊢
  have hl : lv_has ls 4 [(0, .ref a_chip)] := hl
  have hR : p_isSteady leakSlope leakSteep highE lowCap = (p_isSteady_2 leakSlope leakSteep highE lowCap 6 0) := rfl
  refine lv_iconst (v := nI 0) hx hb d_Chip_isSteady_0 (by decide) ?_
  refine lv_istore_n (lv' := [(1, .int (nI 0)), (0, .ref a_chip)]) hx hb d_Chip_isSteady_1 rfl hl (by decide) rfl (fun ls hl => ?_)
  have key2 : ∀ (r : Nat) (k : Nat) (ls : Array Slot) (H : Heap) (locs : List Loc), k + r = 6 → lv_has ls 4 [(0, .ref a_chip), (1, .int (nI k))] → va_P D classes [(a_chip, .inr (1, [.ref a_lowCap, .ref a_highCap, .ref a_truCap, .ref a_lowE, .ref a_highE, .ref a_truE, .ref a_lim, .ref a_powr, .int trueAir, .int highAir, .int leakBase, .int leakSlope, .int leakSteep, .int leakKnee, .ref a_grow])), (a_highE, .inl (cI, 49, .inl highE)), (a_lowCap, .inl (cI, 6, .inl lowCap))] H → va_D A [(a_chip, .inr (1, [.ref a_lowCap, .ref a_highCap, .ref a_truCap, .ref a_lowE, .ref a_highE, .ref a_truE, .ref a_lim, .ref a_powr, .int trueAir, .int highAir, .int leakBase, .int leakSlope, .int leakSteep, .int leakKnee, .ref a_grow])), (a_highE, .inl (cI, 49, .inl highE)), (a_lowCap, .inl (cI, 6, .inl lowCap))] → va_S A s.heap H locs → p_isSteady leakSlope leakSteep highE lowCap = p_isSteady_2 leakSlope leakSteep highE lowCap r k → W p l e { frames := 1, cells := 0, slots := 0, locals := 21 } s m ([.ref a_chip]).toArray below meth c H locs 0 0 Q (F0 m 2 ls []) := by
    intro r
    induction r with
    | zero =>
      intro k ls H locs hk hl hP hD hS hR
      obtain rfl : k = 6 := by omega
      have hR : p_isSteady leakSlope leakSteep highE lowCap = (nI 1) := hR.trans rfl
      refine lv_iload_n hx hb d_Chip_isSteady_2 rfl (lv_at hl 1 rfl) ?_
      refine lv_bipush (v := nI 6) hx hb d_Chip_isSteady_3 (by decide) ?_
      refine nn_icmp_ge (tgt := 74) hx hb (by omega) (by omega) d_Chip_isSteady_5 (by decide) (fun _ => ?_) (fun h => absurd (by omega) h)
      refine lv_iconst (v := nI 1) hx hb d_Chip_isSteady_74 (by decide) ?_
      exact (W.zret (v := nI 1) (ty := .boolean) hx hb hr rfl (fun t9 ht hW => ⟨⟨nI 1, (), rfl, hR.symm, by rw [ht]; exact hP, hD⟩, hS.F ht⟩) hS.2.2 d_Chip_isSteady_75).mono hQ
    | succ r ih =>
      intro k ls H locs hk hl hP hD hS hR
      have hk1 : k < 6 := by omega
      have hR : p_isSteady leakSlope leakSteep highE lowCap = (if 4 ≤ k then (ap1 (p_isSteady_29 highE k 7 0 (nI 0)) (fun pull => (if ((nI 2) * pull) ≤ (lowCap k) then (p_isSteady_2 leakSlope leakSteep highE lowCap r (k + 1)) else (nI 0)))) else (ap1 (p_isSteady_29 highE k 7 0 (leakSlope + leakSteep)) (fun pull => (if ((nI 2) * pull) ≤ (lowCap k) then (p_isSteady_2 leakSlope leakSteep highE lowCap r (k + 1)) else (nI 0))))) := hR.trans rfl
      refine lv_iload_n hx hb d_Chip_isSteady_2 rfl (lv_at hl 1 rfl) ?_
      refine lv_bipush (v := nI 6) hx hb d_Chip_isSteady_3 (by decide) ?_
      refine nn_icmp_ge (tgt := 74) hx hb (by omega) (by omega) d_Chip_isSteady_5 (by decide) (fun h => absurd h (by omega)) (fun _ => ?_)
      have key29 : ∀ (r2 : Nat) (k2 : Nat) (pull : Int32) (ls : Array Slot) (H : Heap) (locs : List Loc), k2 + r2 = 7 → lv_has ls 4 [(0, .ref a_chip), (1, .int (nI k)), (2, .int pull), (3, .int (nI k2))] → va_P D classes [(a_chip, .inr (1, [.ref a_lowCap, .ref a_highCap, .ref a_truCap, .ref a_lowE, .ref a_highE, .ref a_truE, .ref a_lim, .ref a_powr, .int trueAir, .int highAir, .int leakBase, .int leakSlope, .int leakSteep, .int leakKnee, .ref a_grow])), (a_highE, .inl (cI, 49, .inl highE)), (a_lowCap, .inl (cI, 6, .inl lowCap))] H → va_D A [(a_chip, .inr (1, [.ref a_lowCap, .ref a_highCap, .ref a_truCap, .ref a_lowE, .ref a_highE, .ref a_truE, .ref a_lim, .ref a_powr, .int trueAir, .int highAir, .int leakBase, .int leakSlope, .int leakSteep, .int leakKnee, .ref a_grow])), (a_highE, .inl (cI, 49, .inl highE)), (a_lowCap, .inl (cI, 6, .inl lowCap))] → va_S A s.heap H locs → p_isSteady leakSlope leakSteep highE lowCap = ap1 (p_isSteady_29 highE k r2 k2 pull) (fun pull => (if ((nI 2) * pull) ≤ (lowCap k) then (p_isSteady_2 leakSlope leakSteep highE lowCap r (k + 1)) else (nI 0))) → W p l e { frames := 1, cells := 0, slots := 0, locals := 21 } s m ([.ref a_chip]).toArray below meth c H locs 0 0 Q (F0 m 29 ls []) := by
        intro r2
        induction r2 with
        | zero =>
          intro k2 pull ls H locs hk hl hP hD hS hR
          obtain rfl : k2 = 7 := by omega
          have hR : p_isSteady leakSlope leakSteep highE lowCap = (if ((nI 2) * pull) ≤ (lowCap k) then (p_isSteady_2 leakSlope leakSteep highE lowCap r (k + 1)) else (nI 0)) := hR.trans rfl
          refine lv_iload_n hx hb d_Chip_isSteady_29 rfl (lv_at hl 3 rfl) ?_
          refine lv_bipush (v := nI 7) hx hb d_Chip_isSteady_30 (by decide) ?_
          refine nn_icmp_ge (tgt := 54) hx hb (by omega) (by omega) d_Chip_isSteady_32 (by decide) (fun _ => ?_) (fun h => absurd (by omega) h)
          refine lv_iconst (v := nI 2) hx hb d_Chip_isSteady_54 (by decide) ?_
          refine lv_iload_n hx hb d_Chip_isSteady_55 rfl (lv_at hl 2 rfl) ?_
          refine lv_imul hx hb d_Chip_isSteady_56 ?_
          refine lv_aload_n hx hb d_Chip_isSteady_57 rfl (lv_at hl 0 rfl) ?_
          refine va_get (D := D) (ci := 1) (v := .ref a_lowCap) (C := R_Chip) (T := F_Chip) (N := 15) hx hb (u_Chip zh hZ) (fun _ h => h) hown hK hP 0 rfl rfl 0 (by decide) (wd zh hZ 68 q_68 rfl) (fun _ h9 => h9) rfl d_Chip_isSteady_58 ?_
          refine lv_iload_n hx hb d_Chip_isSteady_61 rfl (lv_at hl 1 rfl) ?_
          refine nn_iald hx hb hK hP 2 0 rfl rfl (j := k) (by omega) (by decide) d_Chip_isSteady_62 ?_
          refine lv_icmp_le (tgt := 68) hx hb d_Chip_isSteady_63 (by decide) (fun h1 => ?_) (fun h1 => ?_)
          · have hR := hR.trans (if_pos h1)
            refine lv_iinc (k := 1) (v := nI (k + 1)) (lv' := [(1, .int (nI (k + 1))), (0, .ref a_chip), (2, .int pull), (3, .int (nI 7))]) hx hb d_Chip_isSteady_68 hl rfl (by rw [show Int32.ofInt 1 = nI 1 from by decide, nI_add]) (by decide) rfl (fun ls hl => ?_)
            refine lv_goto (tgt := 2) hx hb d_Chip_isSteady_71 (by decide) ?_
            exact ih (k + 1) _ _ _ (by omega) (lv_sub hl [1, 0] rfl) hP hD hS hR
          · have hR := hR.trans (if_neg h1)
            refine lv_iconst (v := nI 0) hx hb d_Chip_isSteady_66 (by decide) ?_
            exact (W.zret (v := nI 0) (ty := .boolean) hx hb hr rfl (fun t9 ht hW => ⟨⟨nI 0, (), rfl, hR.symm, by rw [ht]; exact hP, hD⟩, hS.F ht⟩) hS.2.2 d_Chip_isSteady_67).mono hQ
        | succ r2 ih =>
          intro k2 pull ls H locs hk hl hP hD hS hR
          have hk1 : k2 < 7 := by omega
          have hR : p_isSteady leakSlope leakSteep highE lowCap = ap1 ((p_isSteady_29 highE k r2 (k2 + 1) (pull + (highE (k * 7 + k2))))) (fun pull => (if ((nI 2) * pull) ≤ (lowCap k) then (p_isSteady_2 leakSlope leakSteep highE lowCap r (k + 1)) else (nI 0))) := hR.trans rfl
          refine lv_iload_n hx hb d_Chip_isSteady_29 rfl (lv_at hl 3 rfl) ?_
          refine lv_bipush (v := nI 7) hx hb d_Chip_isSteady_30 (by decide) ?_
          refine nn_icmp_ge (tgt := 54) hx hb (by omega) (by omega) d_Chip_isSteady_32 (by decide) (fun h => absurd h (by omega)) (fun _ => ?_)
          refine lv_iload_n hx hb d_Chip_isSteady_35 rfl (lv_at hl 2 rfl) ?_
          refine lv_aload_n hx hb d_Chip_isSteady_36 rfl (lv_at hl 0 rfl) ?_
          refine va_get (D := D) (ci := 1) (v := .ref a_highE) (C := R_Chip) (T := F_Chip) (N := 15) hx hb (u_Chip zh hZ) (fun _ h => h) hown hK hP 0 rfl rfl 4 (by decide) (wd zh hZ 76 q_76 rfl) (fun _ h9 => h9) rfl d_Chip_isSteady_37 ?_
          refine lv_iload_n hx hb d_Chip_isSteady_40 rfl (lv_at hl 1 rfl) ?_
          refine lv_iload_n hx hb d_Chip_isSteady_41 rfl (lv_at hl 3 rfl) ?_
          refine ke_i (S := Unit) (fun uu => [(a_chip, .inr (1, [.ref a_lowCap, .ref a_highCap, .ref a_truCap, .ref a_lowE, .ref a_highE, .ref a_truE, .ref a_lim, .ref a_powr, .int trueAir, .int highAir, .int leakBase, .int leakSlope, .int leakSteep, .int leakKnee, .ref a_grow])), (a_highE, .inl (cI, 49, .inl highE)), (a_lowCap, .inl (cI, 6, .inl lowCap))]) (kr_SN (As := [.int (nI k), .int (nI k2)]) (rest := [.ref a_highE, .int pull]) hx hb hml hown hZ (c_between l zh D cI cZ cJ _ k k2) (s_Chip_59_Gov_between zh hZ) (wd zh hZ 358 q_358 rfl) ⟨rfl, rfl, by decide, by decide⟩ (hP.sub [] rfl) hK (hD.sub [] (by decide) rfl) rfl hl.1 rfl (Nat.le_of_ble_eq_true rfl) d_Chip_isSteady_42 (Nat.zero_le _) (Nat.zero_le _)) hP hD hS hA 3 [] [0, 1, 2] rfl (fun _ => rfl) (fun _ => rfl) (by decide) (by decide) (fun _ => rfl) (fun _ => rfl) rfl (fun rr uu H locs hu hP hD hS => ?_)
          subst hu
          have hP : va_P D classes [(a_chip, .inr (1, [.ref a_lowCap, .ref a_highCap, .ref a_truCap, .ref a_lowE, .ref a_highE, .ref a_truE, .ref a_lim, .ref a_powr, .int trueAir, .int highAir, .int leakBase, .int leakSlope, .int leakSteep, .int leakKnee, .ref a_grow])), (a_highE, .inl (cI, 49, .inl highE)), (a_lowCap, .inl (cI, 6, .inl lowCap))] H := hP
          have hD : va_D A [(a_chip, .inr (1, [.ref a_lowCap, .ref a_highCap, .ref a_truCap, .ref a_lowE, .ref a_highE, .ref a_truE, .ref a_lim, .ref a_powr, .int trueAir, .int highAir, .int leakBase, .int leakSlope, .int leakSteep, .int leakKnee, .ref a_grow])), (a_highE, .inl (cI, 49, .inl highE)), (a_lowCap, .inl (cI, 6, .inl lowCap))] := hD
          refine nn_eq (rfl) ?_
          refine nn_iald hx hb hK hP 1 0 rfl rfl (j := k * 7 + k2) (by omega) (by decide) d_Chip_isSteady_45 ?_
          refine lv_iadd hx hb d_Chip_isSteady_46 ?_
          refine lv_istore_n (lv' := [(2, .int (pull + (highE (k * 7 + k2)))), (0, .ref a_chip), (1, .int (nI k)), (3, .int (nI k2))]) hx hb d_Chip_isSteady_47 rfl hl (by decide) rfl (fun ls hl => ?_)
          refine lv_iinc (k := 3) (v := nI (k2 + 1)) (lv' := [(3, .int (nI (k2 + 1))), (2, .int (pull + (highE (k * 7 + k2)))), (0, .ref a_chip), (1, .int (nI k))]) hx hb d_Chip_isSteady_48 hl rfl (by rw [show Int32.ofInt 1 = nI 1 from by decide, nI_add]) (by decide) rfl (fun ls hl => ?_)
          refine lv_goto (tgt := 29) hx hb d_Chip_isSteady_51 (by decide) ?_
          exact ih (k2 + 1) (pull + (highE (k * 7 + k2))) _ _ _ (by omega) (lv_sub hl [2, 3, 1, 0] rfl) hP hD hS hR
      refine lv_iload_n hx hb d_Chip_isSteady_8 rfl (lv_at hl 1 rfl) ?_
      refine lv_iconst (v := nI 4) hx hb d_Chip_isSteady_9 (by decide) ?_
      refine nn_icmp_ge (tgt := 25) hx hb (by omega) (by omega) d_Chip_isSteady_10 (by decide) (fun h2 => ?_) (fun h2 => ?_)
      · have hR := hR.trans (if_pos h2)
        refine lv_iconst (v := nI 0) hx hb d_Chip_isSteady_25 (by decide) ?_
        refine lv_istore_n (lv' := [(2, .int (nI 0)), (0, .ref a_chip), (1, .int (nI k))]) hx hb d_Chip_isSteady_26 rfl hl (by decide) rfl (fun ls hl => ?_)
        refine lv_iconst (v := nI 0) hx hb d_Chip_isSteady_27 (by decide) ?_
        refine lv_istore_n (lv' := [(3, .int (nI 0)), (2, .int (nI 0)), (0, .ref a_chip), (1, .int (nI k))]) hx hb d_Chip_isSteady_28 rfl hl (by decide) rfl (fun ls hl => ?_)
        exact key29 7 0 (nI 0) _ _ _ (by omega) (lv_sub hl [2, 3, 1, 0] rfl) hP hD hS hR
      · have hR := hR.trans (if_neg h2)
        refine lv_aload_n hx hb d_Chip_isSteady_13 rfl (lv_at hl 0 rfl) ?_
        refine va_get (D := D) (ci := 1) (v := .int leakSlope) (C := R_Chip) (T := F_Chip) (N := 15) hx hb (u_Chip zh hZ) (fun _ h => h) hown hK hP 0 rfl rfl 11 (by decide) (wd zh hZ 91 q_91 rfl) (fun _ h9 => h9) rfl d_Chip_isSteady_14 ?_
        refine lv_aload_n hx hb d_Chip_isSteady_17 rfl (lv_at hl 0 rfl) ?_
        refine va_get (D := D) (ci := 1) (v := .int leakSteep) (C := R_Chip) (T := F_Chip) (N := 15) hx hb (u_Chip zh hZ) (fun _ h => h) hown hK hP 0 rfl rfl 12 (by decide) (wd zh hZ 92 q_92 rfl) (fun _ h9 => h9) rfl d_Chip_isSteady_18 ?_
        refine lv_iadd hx hb d_Chip_isSteady_21 ?_
        refine lv_goto (tgt := 26) hx hb d_Chip_isSteady_22 (by decide) ?_
        refine lv_istore_n (lv' := [(2, .int (leakSlope + leakSteep)), (0, .ref a_chip), (1, .int (nI k))]) hx hb d_Chip_isSteady_26 rfl hl (by decide) rfl (fun ls hl => ?_)
        refine lv_iconst (v := nI 0) hx hb d_Chip_isSteady_27 (by decide) ?_
        refine lv_istore_n (lv' := [(3, .int (nI 0)), (2, .int (leakSlope + leakSteep)), (0, .ref a_chip), (1, .int (nI k))]) hx hb d_Chip_isSteady_28 rfl hl (by decide) rfl (fun ls hl => ?_)
        exact key29 7 0 (leakSlope + leakSteep) _ _ _ (by omega) (lv_sub hl [2, 3, 1, 0] rfl) hP hD hS hR
  exact key2 6 0 _ _ _ (by omega) (lv_sub hl [1, 0] rfl) hP hD hS hR
def p_fill4_5 (v : Int32) : Nat → Nat → (Nat → Int32) → (Nat → Int32)
  | 0, k, w => w
  | r + 1, k, w => p_fill4_5 v r (k + 1) (upd w k v)
def p_fill4 (arr4 : Nat → Int32) (v : Int32) : (Nat → Int32) := p_fill4_5 v 4 0 arr4
set_option maxHeartbeats 1000000 in
set_option maxRecDepth 100000 in
theorem c_fill4 (l : Launch) {z : State} {za : Array Value} (zh : ∀ w ∈ lw_tbl, w.before za z = true) (D : va_G) (cI cZ cJ : ClassId) (a_arr4 : Nat) (sz : Nat) (arr4 : Nat → Int32) (v : Int32) :
    Met l y_Arrays_fill [Cond.code y_Arrays_fill prog_16_method_103_code 4 none] { frames := 0, cells := 0, slots := 0, locals := 0 } (va_Pc [.ref a_arr4, .int v] (PreW z D classes cI cZ cJ sz [(a_arr4, .inl (cI, 4, .inl arr4))])) (va_Qv (fun (u : (Nat → Int32)) => u = p_fill4 arr4 v) (fun u => PostW D classes (va_A [(a_arr4, .inl (cI, 4, .inl arr4))] sz) [(a_arr4, .inl (cI, 4, .inl u))]) (va_A [(a_arr4, .inl (cI, 4, .inl arr4))] sz)) 0 0 (va_A [(a_arr4, .inl (cI, 4, .inl arr4))] sz) := by
  refine Met.ofQF (cc := prog_16_method_103_code) (maxL := 4) (ret := none) (by decide +kernel) rfl ?_
  intro p e s m args below meth c s₁ Q B hml hv hQ
  obtain ⟨rfl, rfl, hZ, hP, hK, hD0⟩ := hv
  have hx := B.exec
  have hb := B.bytes
  have hr := B.returns
  have hown : s.vm.findClass R_Arrays = some m.cls := findClass_of_methodNamed B.named
  have hlocks := B.notSynchronized
  clear B
  have hD := hD0.self (sz := s.heap.size)
  generalize hAe : va_A [(a_arr4, .inl (cI, 4, .inl arr4))] s.heap.size = A at hD hQ
  have hA : ∀ q : Nat, s.heap.size ≤ q → A q := fun q h => by rw [← hAe]; exact Or.inr h
  clear hAe hD0
  have hS : va_S A s.heap s.heap [] := va_S.rf
  have hl := lv_entry ([.ref a_arr4, .int v]) (n := 4) (Nat.le_of_ble_eq_true rfl)
  rw [lg_entry_eq]
  generalize (lg_sl ([.ref a_arr4, .int v]) ++ List.replicate (4 - (lg_sl ([.ref a_arr4, .int v])).length) Slot.unset).toArray = ls at hl ⊢
  have hl : lv_has ls 4 [(0, .ref a_arr4), (1, .int v)] := hl
  have hR : p_fill4 arr4 v = (p_fill4_5 v 4 0 arr4) := rfl
  refine lv_iconst (v := nI 0) hx hb d_Arrays_fill_0 (by decide) ?_
  refine lv_istore_n (lv' := [(2, .int (nI 0)), (0, .ref a_arr4), (1, .int v)]) hx hb d_Arrays_fill_1 rfl hl (by decide) rfl (fun ls hl => ?_)
  refine lv_aload_n hx hb d_Arrays_fill_2 rfl (lv_at hl 1 rfl) ?_
  refine va_alen hx hb hK hP 0 0 rfl rfl (v := nI 4) rfl d_Arrays_fill_3 ?_
  refine lv_istore_n (lv' := [(3, .int (nI 4)), (2, .int (nI 0)), (0, .ref a_arr4), (1, .int v)]) hx hb d_Arrays_fill_4 rfl hl (by decide) rfl (fun ls hl => ?_)
  have key5 : ∀ (r : Nat) (k : Nat) (w : Nat → Int32) (ls : Array Slot) (H : Heap) (locs : List Loc), k + r = 4 → lv_has ls 4 [(0, .ref a_arr4), (1, .int v), (2, .int (nI k)), (3, .int (nI 4))] → va_P D classes [(a_arr4, .inl (cI, 4, .inl w))] H → va_D A [(a_arr4, .inl (cI, 4, .inl w))] → va_S A s.heap H locs → p_fill4 arr4 v = p_fill4_5 v r k w → W p l e { frames := 0, cells := 0, slots := 0, locals := 0 } s m ([.ref a_arr4, .int v]).toArray below meth c H locs 0 0 Q (F0 m 5 ls []) := by
    intro r
    induction r with
    | zero =>
      intro k w ls H locs hk hl hP hD hS hR
      obtain rfl : k = 4 := by omega
      have hR : p_fill4 arr4 v = (w) := hR.trans rfl
      refine lv_iload_n hx hb d_Arrays_fill_5 rfl (lv_at hl 2 rfl) ?_
      refine lv_iload_n hx hb d_Arrays_fill_6 rfl (lv_at hl 3 rfl) ?_
      refine nn_icmp_ge (tgt := 20) hx hb (by omega) (by omega) d_Arrays_fill_7 (by decide) (fun _ => ?_) (fun h => absurd (by omega) h)
      exact (W.vret hx hb hr (fun t9 ht hW => ⟨⟨w, rfl, hR.symm, by rw [ht]; exact hP, hD⟩, hS.F ht⟩) hS.2.2 d_Arrays_fill_20).mono hQ
    | succ r ih =>
      intro k w ls H locs hk hl hP hD hS hR
      have hk1 : k < 4 := by omega
      have hR : p_fill4 arr4 v = (p_fill4_5 v r (k + 1) (upd w k v)) := hR.trans rfl
      refine lv_iload_n hx hb d_Arrays_fill_5 rfl (lv_at hl 2 rfl) ?_
      refine lv_iload_n hx hb d_Arrays_fill_6 rfl (lv_at hl 3 rfl) ?_
      refine nn_icmp_ge (tgt := 20) hx hb (by omega) (by omega) d_Arrays_fill_7 (by decide) (fun h => absurd h (by omega)) (fun _ => ?_)
      refine lv_aload_n hx hb d_Arrays_fill_10 rfl (lv_at hl 0 rfl) ?_
      refine lv_iload_n hx hb d_Arrays_fill_11 rfl (lv_at hl 2 rfl) ?_
      refine lv_iload_n hx hb d_Arrays_fill_12 rfl (lv_at hl 1 rfl) ?_
      refine nn_iast hx hb hK hP hD hS 0 0 rfl rfl (j := k) (by omega) (by decide) d_Arrays_fill_13 (fun H locs hP hD hS => ?_)
      have hP : va_P D classes [(a_arr4, .inl (cI, 4, .inl (upd w k v)))] H := hP
      have hD : va_D A [(a_arr4, .inl (cI, 4, .inl (upd w k v)))] := hD
      refine lv_iinc (k := 2) (v := nI (k + 1)) (lv' := [(2, .int (nI (k + 1))), (0, .ref a_arr4), (1, .int v), (3, .int (nI 4))]) hx hb d_Arrays_fill_14 hl rfl (by rw [show Int32.ofInt 1 = nI 1 from by decide, nI_add]) (by decide) rfl (fun ls hl => ?_)
      refine lv_goto (tgt := 5) hx hb d_Arrays_fill_17 (by decide) ?_
      exact ih (k + 1) (upd w k v) _ _ _ (by omega) (lv_sub hl [1, 2, 0, 3] rfl) hP hD hS hR
  exact key5 4 0 arr4 _ _ _ (by omega) (lv_sub hl [2, 3, 1, 0] rfl) hP hD hS hR
def p_fill6_5 (v : Int32) : Nat → Nat → (Nat → Int32) → (Nat → Int32)
  | 0, k, w => w
  | r + 1, k, w => p_fill6_5 v r (k + 1) (upd w k v)
def p_fill6 (arr6 : Nat → Int32) (v : Int32) : (Nat → Int32) := p_fill6_5 v 6 0 arr6
set_option maxHeartbeats 1000000 in
set_option maxRecDepth 100000 in
theorem c_fill6 (l : Launch) {z : State} {za : Array Value} (zh : ∀ w ∈ lw_tbl, w.before za z = true) (D : va_G) (cI cZ cJ : ClassId) (a_arr6 : Nat) (sz : Nat) (arr6 : Nat → Int32) (v : Int32) :
    Met l y_Arrays_fill [Cond.code y_Arrays_fill prog_16_method_103_code 4 none] { frames := 0, cells := 0, slots := 0, locals := 0 } (va_Pc [.ref a_arr6, .int v] (PreW z D classes cI cZ cJ sz [(a_arr6, .inl (cI, 6, .inl arr6))])) (va_Qv (fun (u : (Nat → Int32)) => u = p_fill6 arr6 v) (fun u => PostW D classes (va_A [(a_arr6, .inl (cI, 6, .inl arr6))] sz) [(a_arr6, .inl (cI, 6, .inl u))]) (va_A [(a_arr6, .inl (cI, 6, .inl arr6))] sz)) 0 0 (va_A [(a_arr6, .inl (cI, 6, .inl arr6))] sz) := by
  refine Met.ofQF (cc := prog_16_method_103_code) (maxL := 4) (ret := none) (by decide +kernel) rfl ?_
  intro p e s m args below meth c s₁ Q B hml hv hQ
  obtain ⟨rfl, rfl, hZ, hP, hK, hD0⟩ := hv
  have hx := B.exec
  have hb := B.bytes
  have hr := B.returns
  have hown : s.vm.findClass R_Arrays = some m.cls := findClass_of_methodNamed B.named
  have hlocks := B.notSynchronized
  clear B
  have hD := hD0.self (sz := s.heap.size)
  generalize hAe : va_A [(a_arr6, .inl (cI, 6, .inl arr6))] s.heap.size = A at hD hQ
  have hA : ∀ q : Nat, s.heap.size ≤ q → A q := fun q h => by rw [← hAe]; exact Or.inr h
  clear hAe hD0
  have hS : va_S A s.heap s.heap [] := va_S.rf
  have hl := lv_entry ([.ref a_arr6, .int v]) (n := 4) (Nat.le_of_ble_eq_true rfl)
  rw [lg_entry_eq]
  generalize (lg_sl ([.ref a_arr6, .int v]) ++ List.replicate (4 - (lg_sl ([.ref a_arr6, .int v])).length) Slot.unset).toArray = ls at hl ⊢
  have hl : lv_has ls 4 [(0, .ref a_arr6), (1, .int v)] := hl
  have hR : p_fill6 arr6 v = (p_fill6_5 v 6 0 arr6) := rfl
  refine lv_iconst (v := nI 0) hx hb d_Arrays_fill_0 (by decide) ?_
  refine lv_istore_n (lv' := [(2, .int (nI 0)), (0, .ref a_arr6), (1, .int v)]) hx hb d_Arrays_fill_1 rfl hl (by decide) rfl (fun ls hl => ?_)
  refine lv_aload_n hx hb d_Arrays_fill_2 rfl (lv_at hl 1 rfl) ?_
  refine va_alen hx hb hK hP 0 0 rfl rfl (v := nI 6) rfl d_Arrays_fill_3 ?_
  refine lv_istore_n (lv' := [(3, .int (nI 6)), (2, .int (nI 0)), (0, .ref a_arr6), (1, .int v)]) hx hb d_Arrays_fill_4 rfl hl (by decide) rfl (fun ls hl => ?_)
  have key5 : ∀ (r : Nat) (k : Nat) (w : Nat → Int32) (ls : Array Slot) (H : Heap) (locs : List Loc), k + r = 6 → lv_has ls 4 [(0, .ref a_arr6), (1, .int v), (2, .int (nI k)), (3, .int (nI 6))] → va_P D classes [(a_arr6, .inl (cI, 6, .inl w))] H → va_D A [(a_arr6, .inl (cI, 6, .inl w))] → va_S A s.heap H locs → p_fill6 arr6 v = p_fill6_5 v r k w → W p l e { frames := 0, cells := 0, slots := 0, locals := 0 } s m ([.ref a_arr6, .int v]).toArray below meth c H locs 0 0 Q (F0 m 5 ls []) := by
    intro r
    induction r with
    | zero =>
      intro k w ls H locs hk hl hP hD hS hR
      obtain rfl : k = 6 := by omega
      have hR : p_fill6 arr6 v = (w) := hR.trans rfl
      refine lv_iload_n hx hb d_Arrays_fill_5 rfl (lv_at hl 2 rfl) ?_
      refine lv_iload_n hx hb d_Arrays_fill_6 rfl (lv_at hl 3 rfl) ?_
      refine nn_icmp_ge (tgt := 20) hx hb (by omega) (by omega) d_Arrays_fill_7 (by decide) (fun _ => ?_) (fun h => absurd (by omega) h)
      exact (W.vret hx hb hr (fun t9 ht hW => ⟨⟨w, rfl, hR.symm, by rw [ht]; exact hP, hD⟩, hS.F ht⟩) hS.2.2 d_Arrays_fill_20).mono hQ
    | succ r ih =>
      intro k w ls H locs hk hl hP hD hS hR
      have hk1 : k < 6 := by omega
      have hR : p_fill6 arr6 v = (p_fill6_5 v r (k + 1) (upd w k v)) := hR.trans rfl
      refine lv_iload_n hx hb d_Arrays_fill_5 rfl (lv_at hl 2 rfl) ?_
      refine lv_iload_n hx hb d_Arrays_fill_6 rfl (lv_at hl 3 rfl) ?_
      refine nn_icmp_ge (tgt := 20) hx hb (by omega) (by omega) d_Arrays_fill_7 (by decide) (fun h => absurd h (by omega)) (fun _ => ?_)
      refine lv_aload_n hx hb d_Arrays_fill_10 rfl (lv_at hl 0 rfl) ?_
      refine lv_iload_n hx hb d_Arrays_fill_11 rfl (lv_at hl 2 rfl) ?_
      refine lv_iload_n hx hb d_Arrays_fill_12 rfl (lv_at hl 1 rfl) ?_
      refine nn_iast hx hb hK hP hD hS 0 0 rfl rfl (j := k) (by omega) (by decide) d_Arrays_fill_13 (fun H locs hP hD hS => ?_)
      have hP : va_P D classes [(a_arr6, .inl (cI, 6, .inl (upd w k v)))] H := hP
      have hD : va_D A [(a_arr6, .inl (cI, 6, .inl (upd w k v)))] := hD
      refine lv_iinc (k := 2) (v := nI (k + 1)) (lv' := [(2, .int (nI (k + 1))), (0, .ref a_arr6), (1, .int v), (3, .int (nI 6))]) hx hb d_Arrays_fill_14 hl rfl (by rw [show Int32.ofInt 1 = nI 1 from by decide, nI_add]) (by decide) rfl (fun ls hl => ?_)
      refine lv_goto (tgt := 5) hx hb d_Arrays_fill_17 (by decide) ?_
      exact ih (k + 1) (upd w k v) _ _ _ (by omega) (lv_sub hl [1, 2, 0, 3] rfl) hP hD hS hR
  exact key5 6 0 arr6 _ _ _ (by omega) (lv_sub hl [2, 3, 1, 0] rfl) hP hD hS hR
def p_fill7_5 (v : Int32) : Nat → Nat → (Nat → Int32) → (Nat → Int32)
  | 0, k, w => w
  | r + 1, k, w => p_fill7_5 v r (k + 1) (upd w k v)
def p_fill7 (arr7 : Nat → Int32) (v : Int32) : (Nat → Int32) := p_fill7_5 v 7 0 arr7
set_option maxHeartbeats 1000000 in
set_option maxRecDepth 100000 in
theorem c_fill7 (l : Launch) {z : State} {za : Array Value} (zh : ∀ w ∈ lw_tbl, w.before za z = true) (D : va_G) (cI cZ cJ : ClassId) (a_arr7 : Nat) (sz : Nat) (arr7 : Nat → Int32) (v : Int32) :
    Met l y_Arrays_fill [Cond.code y_Arrays_fill prog_16_method_103_code 4 none] { frames := 0, cells := 0, slots := 0, locals := 0 } (va_Pc [.ref a_arr7, .int v] (PreW z D classes cI cZ cJ sz [(a_arr7, .inl (cI, 7, .inl arr7))])) (va_Qv (fun (u : (Nat → Int32)) => u = p_fill7 arr7 v) (fun u => PostW D classes (va_A [(a_arr7, .inl (cI, 7, .inl arr7))] sz) [(a_arr7, .inl (cI, 7, .inl u))]) (va_A [(a_arr7, .inl (cI, 7, .inl arr7))] sz)) 0 0 (va_A [(a_arr7, .inl (cI, 7, .inl arr7))] sz) := by
  refine Met.ofQF (cc := prog_16_method_103_code) (maxL := 4) (ret := none) (by decide +kernel) rfl ?_
  intro p e s m args below meth c s₁ Q B hml hv hQ
  obtain ⟨rfl, rfl, hZ, hP, hK, hD0⟩ := hv
  have hx := B.exec
  have hb := B.bytes
  have hr := B.returns
  have hown : s.vm.findClass R_Arrays = some m.cls := findClass_of_methodNamed B.named
  have hlocks := B.notSynchronized
  clear B
  have hD := hD0.self (sz := s.heap.size)
  generalize hAe : va_A [(a_arr7, .inl (cI, 7, .inl arr7))] s.heap.size = A at hD hQ
  have hA : ∀ q : Nat, s.heap.size ≤ q → A q := fun q h => by rw [← hAe]; exact Or.inr h
  clear hAe hD0
  have hS : va_S A s.heap s.heap [] := va_S.rf
  have hl := lv_entry ([.ref a_arr7, .int v]) (n := 4) (Nat.le_of_ble_eq_true rfl)
  rw [lg_entry_eq]
  generalize (lg_sl ([.ref a_arr7, .int v]) ++ List.replicate (4 - (lg_sl ([.ref a_arr7, .int v])).length) Slot.unset).toArray = ls at hl ⊢
  have hl : lv_has ls 4 [(0, .ref a_arr7), (1, .int v)] := hl
  have hR : p_fill7 arr7 v = (p_fill7_5 v 7 0 arr7) := rfl
  refine lv_iconst (v := nI 0) hx hb d_Arrays_fill_0 (by decide) ?_
  refine lv_istore_n (lv' := [(2, .int (nI 0)), (0, .ref a_arr7), (1, .int v)]) hx hb d_Arrays_fill_1 rfl hl (by decide) rfl (fun ls hl => ?_)
  refine lv_aload_n hx hb d_Arrays_fill_2 rfl (lv_at hl 1 rfl) ?_
  refine va_alen hx hb hK hP 0 0 rfl rfl (v := nI 7) rfl d_Arrays_fill_3 ?_
  refine lv_istore_n (lv' := [(3, .int (nI 7)), (2, .int (nI 0)), (0, .ref a_arr7), (1, .int v)]) hx hb d_Arrays_fill_4 rfl hl (by decide) rfl (fun ls hl => ?_)
  have key5 : ∀ (r : Nat) (k : Nat) (w : Nat → Int32) (ls : Array Slot) (H : Heap) (locs : List Loc), k + r = 7 → lv_has ls 4 [(0, .ref a_arr7), (1, .int v), (2, .int (nI k)), (3, .int (nI 7))] → va_P D classes [(a_arr7, .inl (cI, 7, .inl w))] H → va_D A [(a_arr7, .inl (cI, 7, .inl w))] → va_S A s.heap H locs → p_fill7 arr7 v = p_fill7_5 v r k w → W p l e { frames := 0, cells := 0, slots := 0, locals := 0 } s m ([.ref a_arr7, .int v]).toArray below meth c H locs 0 0 Q (F0 m 5 ls []) := by
    intro r
    induction r with
    | zero =>
      intro k w ls H locs hk hl hP hD hS hR
      obtain rfl : k = 7 := by omega
      have hR : p_fill7 arr7 v = (w) := hR.trans rfl
      refine lv_iload_n hx hb d_Arrays_fill_5 rfl (lv_at hl 2 rfl) ?_
      refine lv_iload_n hx hb d_Arrays_fill_6 rfl (lv_at hl 3 rfl) ?_
      refine nn_icmp_ge (tgt := 20) hx hb (by omega) (by omega) d_Arrays_fill_7 (by decide) (fun _ => ?_) (fun h => absurd (by omega) h)
      exact (W.vret hx hb hr (fun t9 ht hW => ⟨⟨w, rfl, hR.symm, by rw [ht]; exact hP, hD⟩, hS.F ht⟩) hS.2.2 d_Arrays_fill_20).mono hQ
    | succ r ih =>
      intro k w ls H locs hk hl hP hD hS hR
      have hk1 : k < 7 := by omega
      have hR : p_fill7 arr7 v = (p_fill7_5 v r (k + 1) (upd w k v)) := hR.trans rfl
      refine lv_iload_n hx hb d_Arrays_fill_5 rfl (lv_at hl 2 rfl) ?_
      refine lv_iload_n hx hb d_Arrays_fill_6 rfl (lv_at hl 3 rfl) ?_
      refine nn_icmp_ge (tgt := 20) hx hb (by omega) (by omega) d_Arrays_fill_7 (by decide) (fun h => absurd h (by omega)) (fun _ => ?_)
      refine lv_aload_n hx hb d_Arrays_fill_10 rfl (lv_at hl 0 rfl) ?_
      refine lv_iload_n hx hb d_Arrays_fill_11 rfl (lv_at hl 2 rfl) ?_
      refine lv_iload_n hx hb d_Arrays_fill_12 rfl (lv_at hl 1 rfl) ?_
      refine nn_iast hx hb hK hP hD hS 0 0 rfl rfl (j := k) (by omega) (by decide) d_Arrays_fill_13 (fun H locs hP hD hS => ?_)
      have hP : va_P D classes [(a_arr7, .inl (cI, 7, .inl (upd w k v)))] H := hP
      have hD : va_D A [(a_arr7, .inl (cI, 7, .inl (upd w k v)))] := hD
      refine lv_iinc (k := 2) (v := nI (k + 1)) (lv' := [(2, .int (nI (k + 1))), (0, .ref a_arr7), (1, .int v), (3, .int (nI 7))]) hx hb d_Arrays_fill_14 hl rfl (by rw [show Int32.ofInt 1 = nI 1 from by decide, nI_add]) (by decide) rfl (fun ls hl => ?_)
      refine lv_goto (tgt := 5) hx hb d_Arrays_fill_17 (by decide) ?_
      exact ih (k + 1) (upd w k v) _ _ _ (by omega) (lv_sub hl [1, 2, 0, 3] rfl) hP hD hS hR
  exact key5 7 0 arr7 _ _ _ (by omega) (lv_sub hl [2, 3, 1, 0] rfl) hP hD hS hR
def p_fill49_5 (v : Int32) : Nat → Nat → (Nat → Int32) → (Nat → Int32)
  | 0, k, w => w
  | r + 1, k, w => p_fill49_5 v r (k + 1) (upd w k v)
def p_fill49 (arr49 : Nat → Int32) (v : Int32) : (Nat → Int32) := p_fill49_5 v 49 0 arr49
set_option maxHeartbeats 1000000 in
set_option maxRecDepth 100000 in
theorem c_fill49 (l : Launch) {z : State} {za : Array Value} (zh : ∀ w ∈ lw_tbl, w.before za z = true) (D : va_G) (cI cZ cJ : ClassId) (a_arr49 : Nat) (sz : Nat) (arr49 : Nat → Int32) (v : Int32) :
    Met l y_Arrays_fill [Cond.code y_Arrays_fill prog_16_method_103_code 4 none] { frames := 0, cells := 0, slots := 0, locals := 0 } (va_Pc [.ref a_arr49, .int v] (PreW z D classes cI cZ cJ sz [(a_arr49, .inl (cI, 49, .inl arr49))])) (va_Qv (fun (u : (Nat → Int32)) => u = p_fill49 arr49 v) (fun u => PostW D classes (va_A [(a_arr49, .inl (cI, 49, .inl arr49))] sz) [(a_arr49, .inl (cI, 49, .inl u))]) (va_A [(a_arr49, .inl (cI, 49, .inl arr49))] sz)) 0 0 (va_A [(a_arr49, .inl (cI, 49, .inl arr49))] sz) := by
  refine Met.ofQF (cc := prog_16_method_103_code) (maxL := 4) (ret := none) (by decide +kernel) rfl ?_
  intro p e s m args below meth c s₁ Q B hml hv hQ
  obtain ⟨rfl, rfl, hZ, hP, hK, hD0⟩ := hv
  have hx := B.exec
  have hb := B.bytes
  have hr := B.returns
  have hown : s.vm.findClass R_Arrays = some m.cls := findClass_of_methodNamed B.named
  have hlocks := B.notSynchronized
  clear B
  have hD := hD0.self (sz := s.heap.size)
  generalize hAe : va_A [(a_arr49, .inl (cI, 49, .inl arr49))] s.heap.size = A at hD hQ
  have hA : ∀ q : Nat, s.heap.size ≤ q → A q := fun q h => by rw [← hAe]; exact Or.inr h
  clear hAe hD0
  have hS : va_S A s.heap s.heap [] := va_S.rf
  have hl := lv_entry ([.ref a_arr49, .int v]) (n := 4) (Nat.le_of_ble_eq_true rfl)
  rw [lg_entry_eq]
  generalize (lg_sl ([.ref a_arr49, .int v]) ++ List.replicate (4 - (lg_sl ([.ref a_arr49, .int v])).length) Slot.unset).toArray = ls at hl ⊢
  have hl : lv_has ls 4 [(0, .ref a_arr49), (1, .int v)] := hl
  have hR : p_fill49 arr49 v = (p_fill49_5 v 49 0 arr49) := rfl
  refine lv_iconst (v := nI 0) hx hb d_Arrays_fill_0 (by decide) ?_
  refine lv_istore_n (lv' := [(2, .int (nI 0)), (0, .ref a_arr49), (1, .int v)]) hx hb d_Arrays_fill_1 rfl hl (by decide) rfl (fun ls hl => ?_)
  refine lv_aload_n hx hb d_Arrays_fill_2 rfl (lv_at hl 1 rfl) ?_
  refine va_alen hx hb hK hP 0 0 rfl rfl (v := nI 49) rfl d_Arrays_fill_3 ?_
  refine lv_istore_n (lv' := [(3, .int (nI 49)), (2, .int (nI 0)), (0, .ref a_arr49), (1, .int v)]) hx hb d_Arrays_fill_4 rfl hl (by decide) rfl (fun ls hl => ?_)
  have key5 : ∀ (r : Nat) (k : Nat) (w : Nat → Int32) (ls : Array Slot) (H : Heap) (locs : List Loc), k + r = 49 → lv_has ls 4 [(0, .ref a_arr49), (1, .int v), (2, .int (nI k)), (3, .int (nI 49))] → va_P D classes [(a_arr49, .inl (cI, 49, .inl w))] H → va_D A [(a_arr49, .inl (cI, 49, .inl w))] → va_S A s.heap H locs → p_fill49 arr49 v = p_fill49_5 v r k w → W p l e { frames := 0, cells := 0, slots := 0, locals := 0 } s m ([.ref a_arr49, .int v]).toArray below meth c H locs 0 0 Q (F0 m 5 ls []) := by
    intro r
    induction r with
    | zero =>
      intro k w ls H locs hk hl hP hD hS hR
      obtain rfl : k = 49 := by omega
      have hR : p_fill49 arr49 v = (w) := hR.trans rfl
      refine lv_iload_n hx hb d_Arrays_fill_5 rfl (lv_at hl 2 rfl) ?_
      refine lv_iload_n hx hb d_Arrays_fill_6 rfl (lv_at hl 3 rfl) ?_
      refine nn_icmp_ge (tgt := 20) hx hb (by omega) (by omega) d_Arrays_fill_7 (by decide) (fun _ => ?_) (fun h => absurd (by omega) h)
      exact (W.vret hx hb hr (fun t9 ht hW => ⟨⟨w, rfl, hR.symm, by rw [ht]; exact hP, hD⟩, hS.F ht⟩) hS.2.2 d_Arrays_fill_20).mono hQ
    | succ r ih =>
      intro k w ls H locs hk hl hP hD hS hR
      have hk1 : k < 49 := by omega
      have hR : p_fill49 arr49 v = (p_fill49_5 v r (k + 1) (upd w k v)) := hR.trans rfl
      refine lv_iload_n hx hb d_Arrays_fill_5 rfl (lv_at hl 2 rfl) ?_
      refine lv_iload_n hx hb d_Arrays_fill_6 rfl (lv_at hl 3 rfl) ?_
      refine nn_icmp_ge (tgt := 20) hx hb (by omega) (by omega) d_Arrays_fill_7 (by decide) (fun h => absurd h (by omega)) (fun _ => ?_)
      refine lv_aload_n hx hb d_Arrays_fill_10 rfl (lv_at hl 0 rfl) ?_
      refine lv_iload_n hx hb d_Arrays_fill_11 rfl (lv_at hl 2 rfl) ?_
      refine lv_iload_n hx hb d_Arrays_fill_12 rfl (lv_at hl 1 rfl) ?_
      refine nn_iast hx hb hK hP hD hS 0 0 rfl rfl (j := k) (by omega) (by decide) d_Arrays_fill_13 (fun H locs hP hD hS => ?_)
      have hP : va_P D classes [(a_arr49, .inl (cI, 49, .inl (upd w k v)))] H := hP
      have hD : va_D A [(a_arr49, .inl (cI, 49, .inl (upd w k v)))] := hD
      refine lv_iinc (k := 2) (v := nI (k + 1)) (lv' := [(2, .int (nI (k + 1))), (0, .ref a_arr49), (1, .int v), (3, .int (nI 49))]) hx hb d_Arrays_fill_14 hl rfl (by rw [show Int32.ofInt 1 = nI 1 from by decide, nI_add]) (by decide) rfl (fun ls hl => ?_)
      refine lv_goto (tgt := 5) hx hb d_Arrays_fill_17 (by decide) ?_
      exact ih (k + 1) (upd w k v) _ _ _ (by omega) (lv_sub hl [1, 2, 0, 3] rfl) hP hD hS hR
  exact key5 49 0 arr49 _ _ _ (by omega) (lv_sub hl [2, 3, 1, 0] rfl) hP hD hS hR

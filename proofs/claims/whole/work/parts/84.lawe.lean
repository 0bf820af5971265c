set_option maxHeartbeats 8000000 in
set_option maxRecDepth 100000 in
theorem lc_12 {p : Program} {e : Env} {s : State} {m : MethodId} {below : List Frame} {meth : Method} {c : Code} (l : Launch) (hfl : l.flags = pinnedFlags ++ [noTraceFlag]) {b L : Nat} {xs : Nat → Int32} (hL : L ≤ 2560) (hx : p.tables.exec = Jvm.exec) (hb : c.code = code) (hr : meth.sig.returnType = ret) (hml : c.maxLocals = 7) (hown : s.vm.findClass R_Law = some m.cls) (zh : ∀ w ∈ lw_tbl, w.before #[Value.ref b] s = true) (hX : va_X b L xs s s.heap) (hbl : b < s.heap.size) (hlocks : meth.locks = false) {D : va_G} {cI cZ cJ : ClassId} (hK : va_K D classes (wK cI cZ cJ) s) {aT : Nat} {cT : Cell} (hT0 : s.heap[aT]? = some cT) (hTz : tz_S s aT cT) (hN : xn_S s) (a bm : Nat → Nat) (ao : Nat) {r k : Nat} {ls : Array Slot} {H : Heap} {locs : List Loc} {x : Nat → Nat → Int32} {f : Nat → Int32} {y : Nat → Nat → Int32} {yl : Nat → Nat → Int64} {g : Nat → Int32} {o : Nat → Int64} (ih : ∀ (k : Nat) (ls : Array Slot) (H : Heap) (locs : List Loc) (x : Nat → Nat → Int32) (f : Nat → Int32) (y : Nat → Nat → Int32) (yl : Nat → Nat → Int64) (g : Nat → Int32) (o : Nat → Int64), k + r = 512 → Rel x f y yl g → lv_has ls 7 [(0, .ref b), (1, .ref (a 0)), (2, .ref (bm 0)), (3, .ref ao), (4, .int (nI (5 * k)))] → va_P D classes (LWd cI cZ cJ a x f bm y yl g ao o) H → va_D (fun q => s.heap.size ≤ q) (LWd cI cZ cJ a x f bm y yl g ao o) → va_S (fun q => s.heap.size ≤ q) s.heap H locs → W p l e room_1 s m #[Value.ref b] below meth c H locs (51 + k) (561 + 6 * k) (lw_Z below #[Value.ref b] s) (F0 m 23 ls [])) (hk : k + (r + 1) = 512) (hi : 5 * k + 5 ≤ L) (R : Rel x f y yl g) (hl : lv_has ls 7 [(0, .ref b), (1, .ref (a 0)), (2, .ref (bm 0)), (3, .ref ao), (4, .int (nI (5 * k)))]) (hP : va_P D classes (LWd cI cZ cJ a x f bm y yl g ao o) H) (hD : va_D (fun q => s.heap.size ≤ q) (LWd cI cZ cJ a x f bm y yl g ao o)) (hS : va_S (fun q => s.heap.size ≤ q) s.heap H locs) : W p l e room_1 s m #[Value.ref b] below meth c H locs (51 + k) (561 + 6 * k) (lw_Z below #[Value.ref b] s) (F0 m 799 ls []) := by
  have hZ : s.WarmedH s.vm := State.WarmedH.refl s
  have haT : aT < s.heap.size := (Array.getElem?_eq_some_iff.mp hT0).1
  generalize hAe : (fun q : Nat => s.heap.size ≤ q) = A at hD hS ih
  have hA : ∀ q : Nat, s.heap.size ≤ q → A q := fun q h => by rw [← hAe]; exact h
  have haA : ¬ A aT := by rw [← hAe]; exact Nat.not_le.mpr haT
  have hbA : ¬ A b := by rw [← hAe]; exact Nat.not_le.mpr hbl
  refine lv_aload_n hx hb d_Law_law_799 rfl (lv_at hl 1 rfl) ?_
  refine lv_aload_n hx hb d_Law_law_800 rfl (lv_at hl 0 rfl) ?_
  refine lv_iload hx hb d_Law_law_801 (lv_at hl 4 rfl) ?_
  refine lv_iconst (v := nI 1) hx hb d_Law_law_803 (by decide) ?_
  refine nn_iadd hx hb d_Law_law_804 ?_
  refine nn_sld hx hb hX hbl hbA hS (j := (5 * k) + 1) (by omega) (by omega) d_Law_law_805 ?_
  refine lv_aload_n hx hb d_Law_law_806 rfl (lv_at hl 0 rfl) ?_
  refine lv_iload hx hb d_Law_law_807 (lv_at hl 4 rfl) ?_
  refine lv_iconst (v := nI 2) hx hb d_Law_law_809 (by decide) ?_
  refine nn_iadd hx hb d_Law_law_810 ?_
  refine nn_sld hx hb hX hbl hbA hS (j := (5 * k) + 2) (by omega) (by omega) d_Law_law_811 ?_
  refine lv_aload_n hx hb d_Law_law_812 rfl (lv_at hl 0 rfl) ?_
  refine lv_iload hx hb d_Law_law_813 (lv_at hl 4 rfl) ?_
  refine lv_iconst (v := nI 3) hx hb d_Law_law_815 (by decide) ?_
  refine nn_iadd hx hb d_Law_law_816 ?_
  refine nn_sld hx hb hX hbl hbA hS (j := (5 * k) + 3) (by omega) (by omega) d_Law_law_817 ?_
  refine lv_if_eq (tgt := 825) hx hb d_Law_law_818 (by decide) (fun h1 => ?_) (fun h1 => ?_)
  ·
    refine lv_iconst (v := nI 0) hx hb d_Law_law_825 (by decide) ?_
    have hTc : H[aT]? = some cT := by rw [hS.2.1 aT haT haA]; exact hT0
    refine kl_i (S := (Nat → Int32) × (Nat → Int32)) (fun uu => (LWd cI cZ cJ a (va_up (va_up x 18 uu.1) 19 uu.2) f bm y yl g ao o)) (kx_H (As := [.ref (a 0), .int (xs ((5 * k) + 1)), .int (xs ((5 * k) + 2)), .int (nI 0)]) (rest := []) hTc hx hb hml hown hZ (c_hSensor l zh D cI cZ cJ hfl aT cT hTz hN (a 0) (a 1) (a 11) (a 14) (a 20) (a 27) (a 15) (a 16) (a 17) (a 18) (a 19) _ (f 0) (x 18) (x 19) (xs ((5 * k) + 1)) (xs ((5 * k) + 2)) (nI 0) (by decide)) (s_Law_122_Law_sensor zh hZ) (wd zh hZ 563 q_563 rfl) ⟨rfl, rfl, by decide, by decide⟩ (hP.sub [0, 14, 18, 19] rfl) hK (hD.sub [0, 14, 18, 19] (by decide) rfl) rfl hl.1 rfl (Nat.le_of_ble_eq_true rfl) d_Law_law_826 (by show 51 + k + 1 ≤ 1081; omega) (by show 561 + 6 * k + 6 ≤ 8789; omega)) hP hD hS hA 51 [0, 14, 18, 19] [1, 2, 3, 4, 5, 6, 7, 8, 9, 10, 11, 12, 13, 15, 16, 17, 20, 21, 22, 23, 24, 25, 26, 27, 28, 29, 30, 31, 32, 33, 34, 35, 36, 37, 38, 39, 40, 41, 42, 43, 44, 45, 46, 47, 48, 49, 50] rfl (fun _ => rfl) (fun _ => km_c rfl (km_c rfl (km_c rfl (km_c rfl (km_c rfl (km_c rfl (km_c rfl (km_c rfl (km_c rfl (km_c rfl (km_c rfl (km_c rfl (km_c rfl (km_c rfl (km_c rfl (km_c rfl (km_c rfl (km_c rfl (km_c rfl (km_c rfl (km_c rfl (km_c rfl (km_c rfl (km_c rfl (km_c rfl (km_c rfl (km_c rfl (km_c rfl (km_c rfl (km_c rfl (km_c rfl (km_c rfl (km_c rfl (km_c rfl (km_c rfl (km_c rfl (km_c rfl (km_c rfl (km_c rfl (km_c rfl (km_c rfl (km_c rfl (km_c rfl (km_c rfl (km_c rfl (km_c rfl (km_c rfl (km_n)))))))))))))))))))))))))))))))))))))))))))))))) (by decide) (by decide) (fun _ => rfl) (fun _ => rfl) rfl (fun kk uu H locs hu hP hD hS => ?_)
    have hP : va_P D classes (LWd cI cZ cJ a (va_up (va_up x 18 uu.1) 19 uu.2) f bm y yl g ao o) H := hP
    have hD : va_D A (LWd cI cZ cJ a (va_up (va_up x 18 uu.1) 19 uu.2) f bm y yl g ao o) := hD
    refine lv_istore (lv' := [(5, .int kk), (0, .ref b), (1, .ref (a 0)), (2, .ref (bm 0)), (3, .ref ao), (4, .int (nI (5 * k)))]) hx hb d_Law_law_829 hl (by decide) rfl (fun ls hl => ?_)
    refine lv_aload_n hx hb d_Law_law_831 rfl (lv_at hl 3 rfl) ?_
    refine lv_aload_n hx hb d_Law_law_832 rfl (lv_at hl 1 rfl) ?_
    refine lv_iload hx hb d_Law_law_833 (lv_at hl 5 rfl) ?_
    refine lv_iconst (v := nI 1) hx hb d_Law_law_835 (by decide) ?_
    refine nn_iadd hx hb d_Law_law_836 ?_
    refine nn_sld hx hb hX hbl hbA hS (j := (5 * k) + 1) (by omega) (by omega) d_Law_law_837 ?_
    refine lv_aload_n hx hb d_Law_law_838 rfl (lv_at hl 1 rfl) ?_
    refine lv_iload hx hb d_Law_law_839 (lv_at hl 5 rfl) ?_
    refine lv_iconst (v := nI 2) hx hb d_Law_law_841 (by decide) ?_
    refine nn_iadd hx hb d_Law_law_842 ?_
    refine nn_sld hx hb hX hbl hbA hS (j := (5 * k) + 2) (by omega) (by omega) d_Law_law_843 ?_
    refine lv_aload_n hx hb d_Law_law_844 rfl (lv_at hl 1 rfl) ?_
    refine lv_iload hx hb d_Law_law_845 (lv_at hl 5 rfl) ?_
    refine lv_iconst (v := nI 3) hx hb d_Law_law_847 (by decide) ?_
    refine nn_iadd hx hb d_Law_law_848 ?_
    refine nn_sld hx hb hX hbl hbA hS (j := (5 * k) + 3) (by omega) (by omega) d_Law_law_849 ?_
    refine lv_if_eq (tgt := 857) hx hb d_Law_law_850 (by decide) (fun _ => ?_) (fun h => absurd h1 h)
    refine lv_iconst (v := nI 0) hx hb d_Law_law_857 (by decide) ?_
    refine ke_v (S := Int32 × (Nat → Int32) × (Nat → Int32)) (fun vv9 => (LWd cI cZ cJ a (va_up (va_up x 18 uu.1) 19 uu.2) f bm (va_up (va_up y 14 vv9.2.1) 15 vv9.2.2) yl (va_up g 0 vv9.1) ao o)) (kr_V (As := [.int (xs ((5 * k) + 1)), .int (xs ((5 * k) + 2)), .int (nI 0)]) (b := (bm 0)) (rest := []) (C := R_Model) hx hb hml hown hZ (c_mSensor l zh D cI cZ cJ (bm 0) (bm 1) (bm 2) (bm 3) (bm 4) (bm 5) (bm 6) (bm 7) (bm 8) (bm 9) (bm 10) (bm 11) (bm 12) (bm 13) (bm 14) (bm 15) (bm 16) (bm 17) (bm 18) (bm 19) (bm 20) (bm 21) _ (g 0) (g 1) (g 2) (g 3) (g 4) (g 5) (g 6) (g 7) (g 8) (g 9) (y 14) (y 15) (xs ((5 * k) + 1)) (xs ((5 * k) + 2)) (nI 0)) (s_Law_125_Model_sensor zh hZ) (wd zh hZ 824 q_824 rfl) (wd zh hZ 825 q_825 rfl) ⟨rfl, rfl, by decide, by decide⟩ (va_recv hK hP (ci := 5) rfl (q0 := 28) rfl) (hP.sub [28, 42, 43] rfl) hK (hD.sub [28, 42, 43] (by decide) rfl) rfl hl.1 rfl (Nat.le_of_ble_eq_true rfl) d_Law_law_858 (by show 51 + k + 1 ≤ 1081; omega) (by show 561 + 6 * k + 6 ≤ 8789; omega)) hP hD hS hA 51 [28, 42, 43] [0, 1, 2, 3, 4, 5, 6, 7, 8, 9, 10, 11, 12, 13, 14, 15, 16, 17, 18, 19, 20, 21, 22, 23, 24, 25, 26, 27, 29, 30, 31, 32, 33, 34, 35, 36, 37, 38, 39, 40, 41, 44, 45, 46, 47, 48, 49, 50] rfl (fun _ => rfl) (fun _ => km_c rfl (km_c rfl (km_c rfl (km_c rfl (km_c rfl (km_c rfl (km_c rfl (km_c rfl (km_c rfl (km_c rfl (km_c rfl (km_c rfl (km_c rfl (km_c rfl (km_c rfl (km_c rfl (km_c rfl (km_c rfl (km_c rfl (km_c rfl (km_c rfl (km_c rfl (km_c rfl (km_c rfl (km_c rfl (km_c rfl (km_c rfl (km_c rfl (km_c rfl (km_c rfl (km_c rfl (km_c rfl (km_c rfl (km_c rfl (km_c rfl (km_c rfl (km_c rfl (km_c rfl (km_c rfl (km_c rfl (km_c rfl (km_c rfl (km_c rfl (km_c rfl (km_c rfl (km_c rfl (km_c rfl (km_c rfl (km_n))))))))))))))))))))))))))))))))))))))))))))))))) (by decide) (by decide) (fun _ => rfl) (fun _ => rfl) rfl (fun vv H locs hv hP hD hS => ?_)
    have hP : va_P D classes (LWd cI cZ cJ a (va_up (va_up x 18 uu.1) 19 uu.2) f bm (va_up (va_up y 14 vv.2.1) 15 vv.2.2) yl (va_up g 0 vv.1) ao o) H := hP
    have hD : va_D A (LWd cI cZ cJ a (va_up (va_up x 18 uu.1) 19 uu.2) f bm (va_up (va_up y 14 vv.2.1) 15 vv.2.2) yl (va_up g 0 vv.1) ao o) := hD
    refine lv_aload_n hx hb d_Law_law_861 rfl (lv_at hl 3 rfl) ?_
    refine ke_i (S := Unit) (fun vv9 => (LWd cI cZ cJ a (va_up (va_up x 18 uu.1) 19 uu.2) f bm (va_up (va_up y 14 vv.2.1) 15 vv.2.2) yl (va_up g 0 vv.1) ao o)) (kr_V (As := []) (b := (bm 0)) (rest := []) (C := R_Model) hx hb hml hown hZ (c_mThrown l zh D cI cZ cJ (bm 0) (bm 1) (bm 2) (bm 3) (bm 4) (bm 5) (bm 6) (bm 7) (bm 8) (bm 9) (bm 10) (bm 11) (bm 12) (bm 13) (bm 14) (bm 15) (bm 16) (bm 17) (bm 18) (bm 19) (bm 20) (bm 21) _ ((va_up g 0 vv.1) 0) ((va_up g 0 vv.1) 1) ((va_up g 0 vv.1) 2) ((va_up g 0 vv.1) 3) ((va_up g 0 vv.1) 4) ((va_up g 0 vv.1) 5) ((va_up g 0 vv.1) 6) ((va_up g 0 vv.1) 7) ((va_up g 0 vv.1) 8) ((va_up g 0 vv.1) 9)) (s_Law_82_Model_thrown zh hZ) (wd zh hZ 698 q_698 rfl) (wd zh hZ 699 q_699 rfl) ⟨rfl, rfl, by decide, by decide⟩ (va_recv hK hP (ci := 5) rfl (q0 := 28) rfl) (hP.sub [28] rfl) hK (hD.sub [28] (by decide) rfl) rfl hl.1 rfl (Nat.le_of_ble_eq_true rfl) d_Law_law_862 (by show 51 + k + 1 ≤ 1081; omega) (by show 561 + 6 * k + 6 ≤ 8789; omega)) hP hD hS hA 51 [28] [0, 1, 2, 3, 4, 5, 6, 7, 8, 9, 10, 11, 12, 13, 14, 15, 16, 17, 18, 19, 20, 21, 22, 23, 24, 25, 26, 27, 29, 30, 31, 32, 33, 34, 35, 36, 37, 38, 39, 40, 41, 42, 43, 44, 45, 46, 47, 48, 49, 50] rfl (fun _ => rfl) (fun _ => km_c rfl (km_c rfl (km_c rfl (km_c rfl (km_c rfl (km_c rfl (km_c rfl (km_c rfl (km_c rfl (km_c rfl (km_c rfl (km_c rfl (km_c rfl (km_c rfl (km_c rfl (km_c rfl (km_c rfl (km_c rfl (km_c rfl (km_c rfl (km_c rfl (km_c rfl (km_c rfl (km_c rfl (km_c rfl (km_c rfl (km_c rfl (km_c rfl (km_c rfl (km_c rfl (km_c rfl (km_c rfl (km_c rfl (km_c rfl (km_c rfl (km_c rfl (km_c rfl (km_c rfl (km_c rfl (km_c rfl (km_c rfl (km_c rfl (km_c rfl (km_c rfl (km_c rfl (km_c rfl (km_c rfl (km_c rfl (km_c rfl (km_c rfl (km_n))))))))))))))))))))))))))))))))))))))))))))))))))) (by decide) (by decide) (fun _ => rfl) (fun _ => rfl) rfl (fun tt ww H locs ht hP hD hS => ?_)
    have hP : va_P D classes (LWd cI cZ cJ a (va_up (va_up x 18 uu.1) 19 uu.2) f bm (va_up (va_up y 14 vv.2.1) 15 vv.2.2) yl (va_up g 0 vv.1) ao o) H := hP
    have hD : va_D A (LWd cI cZ cJ a (va_up (va_up x 18 uu.1) 19 uu.2) f bm (va_up (va_up y 14 vv.2.1) 15 vv.2.2) yl (va_up g 0 vv.1) ao o) := hD
    obtain ⟨eK, R1⟩ := L_sensor R (xs ((5 * k) + 1)) (xs ((5 * k) + 2)) (nI 0) hu hv (by decide)
    refine lv_iload hx hb d_Law_law_865 (lv_at hl 0 rfl) ?_
    refine lv_icmp_eq (tgt := 872) hx hb d_Law_law_867 (by decide) (fun _ => ?_) (fun h => absurd (ht.trans eK) h)
    refine lv_goto (tgt := 1085) hx hb d_Law_law_872 (by decide) ?_
    refine lv_iinc (k := 5) (v := nI (5 * k + 5)) (lv' := [(4, .int (nI (5 * k + 5))), (5, .int kk), (0, .ref b), (1, .ref (a 0)), (2, .ref (bm 0)), (3, .ref ao)]) hx hb d_Law_law_1085 hl rfl (by rw [show Int32.ofInt 5 = nI 5 from by decide, nI_add]) (by decide) rfl (fun ls hl => ?_)
    refine lv_goto (tgt := 23) hx hb d_Law_law_1088 (by decide) ?_
    refine W.widen (k := 51 + (k + 1)) (n := 561 + 6 * (k + 1)) (by omega) (by omega) ?_
    exact ih (k + 1) _ _ _ _ _ _ _ _ _ (by omega) R1 (lv_sub hl [2, 3, 4, 5, 0] rfl) hP hD hS
  ·
    refine lv_iconst (v := nI 1) hx hb d_Law_law_821 (by decide) ?_
    refine lv_goto (tgt := 826) hx hb d_Law_law_822 (by decide) ?_
    have hTc : H[aT]? = some cT := by rw [hS.2.1 aT haT haA]; exact hT0
    refine kl_i (S := (Nat → Int32) × (Nat → Int32)) (fun uu => (LWd cI cZ cJ a (va_up (va_up x 18 uu.1) 19 uu.2) f bm y yl g ao o)) (kx_H (As := [.ref (a 0), .int (xs ((5 * k) + 1)), .int (xs ((5 * k) + 2)), .int (nI 1)]) (rest := []) hTc hx hb hml hown hZ (c_hSensor l zh D cI cZ cJ hfl aT cT hTz hN (a 0) (a 1) (a 11) (a 14) (a 20) (a 27) (a 15) (a 16) (a 17) (a 18) (a 19) _ (f 0) (x 18) (x 19) (xs ((5 * k) + 1)) (xs ((5 * k) + 2)) (nI 1) (by decide)) (s_Law_122_Law_sensor zh hZ) (wd zh hZ 563 q_563 rfl) ⟨rfl, rfl, by decide, by decide⟩ (hP.sub [0, 14, 18, 19] rfl) hK (hD.sub [0, 14, 18, 19] (by decide) rfl) rfl hl.1 rfl (Nat.le_of_ble_eq_true rfl) d_Law_law_826 (by show 51 + k + 1 ≤ 1081; omega) (by show 561 + 6 * k + 6 ≤ 8789; omega)) hP hD hS hA 51 [0, 14, 18, 19] [1, 2, 3, 4, 5, 6, 7, 8, 9, 10, 11, 12, 13, 15, 16, 17, 20, 21, 22, 23, 24, 25, 26, 27, 28, 29, 30, 31, 32, 33, 34, 35, 36, 37, 38, 39, 40, 41, 42, 43, 44, 45, 46, 47, 48, 49, 50] rfl (fun _ => rfl) (fun _ => km_c rfl (km_c rfl (km_c rfl (km_c rfl (km_c rfl (km_c rfl (km_c rfl (km_c rfl (km_c rfl (km_c rfl (km_c rfl (km_c rfl (km_c rfl (km_c rfl (km_c rfl (km_c rfl (km_c rfl (km_c rfl (km_c rfl (km_c rfl (km_c rfl (km_c rfl (km_c rfl (km_c rfl (km_c rfl (km_c rfl (km_c rfl (km_c rfl (km_c rfl (km_c rfl (km_c rfl (km_c rfl (km_c rfl (km_c rfl (km_c rfl (km_c rfl (km_c rfl (km_c rfl (km_c rfl (km_c rfl (km_c rfl (km_c rfl (km_c rfl (km_c rfl (km_c rfl (km_c rfl (km_c rfl (km_n)))))))))))))))))))))))))))))))))))))))))))))))) (by decide) (by decide) (fun _ => rfl) (fun _ => rfl) rfl (fun kk uu H locs hu hP hD hS => ?_)
    have hP : va_P D classes (LWd cI cZ cJ a (va_up (va_up x 18 uu.1) 19 uu.2) f bm y yl g ao o) H := hP
    have hD : va_D A (LWd cI cZ cJ a (va_up (va_up x 18 uu.1) 19 uu.2) f bm y yl g ao o) := hD
    refine lv_istore (lv' := [(5, .int kk), (0, .ref b), (1, .ref (a 0)), (2, .ref (bm 0)), (3, .ref ao), (4, .int (nI (5 * k)))]) hx hb d_Law_law_829 hl (by decide) rfl (fun ls hl => ?_)
    refine lv_aload_n hx hb d_Law_law_831 rfl (lv_at hl 3 rfl) ?_
    refine lv_aload_n hx hb d_Law_law_832 rfl (lv_at hl 1 rfl) ?_
    refine lv_iload hx hb d_Law_law_833 (lv_at hl 5 rfl) ?_
    refine lv_iconst (v := nI 1) hx hb d_Law_law_835 (by decide) ?_
    refine nn_iadd hx hb d_Law_law_836 ?_
    refine nn_sld hx hb hX hbl hbA hS (j := (5 * k) + 1) (by omega) (by omega) d_Law_law_837 ?_
    refine lv_aload_n hx hb d_Law_law_838 rfl (lv_at hl 1 rfl) ?_
    refine lv_iload hx hb d_Law_law_839 (lv_at hl 5 rfl) ?_
    refine lv_iconst (v := nI 2) hx hb d_Law_law_841 (by decide) ?_
    refine nn_iadd hx hb d_Law_law_842 ?_
    refine nn_sld hx hb hX hbl hbA hS (j := (5 * k) + 2) (by omega) (by omega) d_Law_law_843 ?_
    refine lv_aload_n hx hb d_Law_law_844 rfl (lv_at hl 1 rfl) ?_
    refine lv_iload hx hb d_Law_law_845 (lv_at hl 5 rfl) ?_
    refine lv_iconst (v := nI 3) hx hb d_Law_law_847 (by decide) ?_
    refine nn_iadd hx hb d_Law_law_848 ?_
    refine nn_sld hx hb hX hbl hbA hS (j := (5 * k) + 3) (by omega) (by omega) d_Law_law_849 ?_
    refine lv_if_eq (tgt := 857) hx hb d_Law_law_850 (by decide) (fun h => absurd h h1) (fun _ => ?_)
    refine lv_iconst (v := nI 1) hx hb d_Law_law_853 (by decide) ?_
    refine lv_goto (tgt := 858) hx hb d_Law_law_854 (by decide) ?_
    refine ke_v (S := Int32 × (Nat → Int32) × (Nat → Int32)) (fun vv9 => (LWd cI cZ cJ a (va_up (va_up x 18 uu.1) 19 uu.2) f bm (va_up (va_up y 14 vv9.2.1) 15 vv9.2.2) yl (va_up g 0 vv9.1) ao o)) (kr_V (As := [.int (xs ((5 * k) + 1)), .int (xs ((5 * k) + 2)), .int (nI 1)]) (b := (bm 0)) (rest := []) (C := R_Model) hx hb hml hown hZ (c_mSensor l zh D cI cZ cJ (bm 0) (bm 1) (bm 2) (bm 3) (bm 4) (bm 5) (bm 6) (bm 7) (bm 8) (bm 9) (bm 10) (bm 11) (bm 12) (bm 13) (bm 14) (bm 15) (bm 16) (bm 17) (bm 18) (bm 19) (bm 20) (bm 21) _ (g 0) (g 1) (g 2) (g 3) (g 4) (g 5) (g 6) (g 7) (g 8) (g 9) (y 14) (y 15) (xs ((5 * k) + 1)) (xs ((5 * k) + 2)) (nI 1)) (s_Law_125_Model_sensor zh hZ) (wd zh hZ 824 q_824 rfl) (wd zh hZ 825 q_825 rfl) ⟨rfl, rfl, by decide, by decide⟩ (va_recv hK hP (ci := 5) rfl (q0 := 28) rfl) (hP.sub [28, 42, 43] rfl) hK (hD.sub [28, 42, 43] (by decide) rfl) rfl hl.1 rfl (Nat.le_of_ble_eq_true rfl) d_Law_law_858 (by show 51 + k + 1 ≤ 1081; omega) (by show 561 + 6 * k + 6 ≤ 8789; omega)) hP hD hS hA 51 [28, 42, 43] [0, 1, 2, 3, 4, 5, 6, 7, 8, 9, 10, 11, 12, 13, 14, 15, 16, 17, 18, 19, 20, 21, 22, 23, 24, 25, 26, 27, 29, 30, 31, 32, 33, 34, 35, 36, 37, 38, 39, 40, 41, 44, 45, 46, 47, 48, 49, 50] rfl (fun _ => rfl) (fun _ => km_c rfl (km_c rfl (km_c rfl (km_c rfl (km_c rfl (km_c rfl (km_c rfl (km_c rfl (km_c rfl (km_c rfl (km_c rfl (km_c rfl (km_c rfl (km_c rfl (km_c rfl (km_c rfl (km_c rfl (km_c rfl (km_c rfl (km_c rfl (km_c rfl (km_c rfl (km_c rfl (km_c rfl (km_c rfl (km_c rfl (km_c rfl (km_c rfl (km_c rfl (km_c rfl (km_c rfl (km_c rfl (km_c rfl (km_c rfl (km_c rfl (km_c rfl (km_c rfl (km_c rfl (km_c rfl (km_c rfl (km_c rfl (km_c rfl (km_c rfl (km_c rfl (km_c rfl (km_c rfl (km_c rfl (km_c rfl (km_n))))))))))))))))))))))))))))))))))))))))))))))))) (by decide) (by decide) (fun _ => rfl) (fun _ => rfl) rfl (fun vv H locs hv hP hD hS => ?_)
    have hP : va_P D classes (LWd cI cZ cJ a (va_up (va_up x 18 uu.1) 19 uu.2) f bm (va_up (va_up y 14 vv.2.1) 15 vv.2.2) yl (va_up g 0 vv.1) ao o) H := hP
    have hD : va_D A (LWd cI cZ cJ a (va_up (va_up x 18 uu.1) 19 uu.2) f bm (va_up (va_up y 14 vv.2.1) 15 vv.2.2) yl (va_up g 0 vv.1) ao o) := hD
    refine lv_aload_n hx hb d_Law_law_861 rfl (lv_at hl 3 rfl) ?_
    refine ke_i (S := Unit) (fun vv9 => (LWd cI cZ cJ a (va_up (va_up x 18 uu.1) 19 uu.2) f bm (va_up (va_up y 14 vv.2.1) 15 vv.2.2) yl (va_up g 0 vv.1) ao o)) (kr_V (As := []) (b := (bm 0)) (rest := []) (C := R_Model) hx hb hml hown hZ (c_mThrown l zh D cI cZ cJ (bm 0) (bm 1) (bm 2) (bm 3) (bm 4) (bm 5) (bm 6) (bm 7) (bm 8) (bm 9) (bm 10) (bm 11) (bm 12) (bm 13) (bm 14) (bm 15) (bm 16) (bm 17) (bm 18) (bm 19) (bm 20) (bm 21) _ ((va_up g 0 vv.1) 0) ((va_up g 0 vv.1) 1) ((va_up g 0 vv.1) 2) ((va_up g 0 vv.1) 3) ((va_up g 0 vv.1) 4) ((va_up g 0 vv.1) 5) ((va_up g 0 vv.1) 6) ((va_up g 0 vv.1) 7) ((va_up g 0 vv.1) 8) ((va_up g 0 vv.1) 9)) (s_Law_82_Model_thrown zh hZ) (wd zh hZ 698 q_698 rfl) (wd zh hZ 699 q_699 rfl) ⟨rfl, rfl, by decide, by decide⟩ (va_recv hK hP (ci := 5) rfl (q0 := 28) rfl) (hP.sub [28] rfl) hK (hD.sub [28] (by decide) rfl) rfl hl.1 rfl (Nat.le_of_ble_eq_true rfl) d_Law_law_862 (by show 51 + k + 1 ≤ 1081; omega) (by show 561 + 6 * k + 6 ≤ 8789; omega)) hP hD hS hA 51 [28] [0, 1, 2, 3, 4, 5, 6, 7, 8, 9, 10, 11, 12, 13, 14, 15, 16, 17, 18, 19, 20, 21, 22, 23, 24, 25, 26, 27, 29, 30, 31, 32, 33, 34, 35, 36, 37, 38, 39, 40, 41, 42, 43, 44, 45, 46, 47, 48, 49, 50] rfl (fun _ => rfl) (fun _ => km_c rfl (km_c rfl (km_c rfl (km_c rfl (km_c rfl (km_c rfl (km_c rfl (km_c rfl (km_c rfl (km_c rfl (km_c rfl (km_c rfl (km_c rfl (km_c rfl (km_c rfl (km_c rfl (km_c rfl (km_c rfl (km_c rfl (km_c rfl (km_c rfl (km_c rfl (km_c rfl (km_c rfl (km_c rfl (km_c rfl (km_c rfl (km_c rfl (km_c rfl (km_c rfl (km_c rfl (km_c rfl (km_c rfl (km_c rfl (km_c rfl (km_c rfl (km_c rfl (km_c rfl (km_c rfl (km_c rfl (km_c rfl (km_c rfl (km_c rfl (km_c rfl (km_c rfl (km_c rfl (km_c rfl (km_c rfl (km_c rfl (km_c rfl (km_n))))))))))))))))))))))))))))))))))))))))))))))))))) (by decide) (by decide) (fun _ => rfl) (fun _ => rfl) rfl (fun tt ww H locs ht hP hD hS => ?_)
    have hP : va_P D classes (LWd cI cZ cJ a (va_up (va_up x 18 uu.1) 19 uu.2) f bm (va_up (va_up y 14 vv.2.1) 15 vv.2.2) yl (va_up g 0 vv.1) ao o) H := hP
    have hD : va_D A (LWd cI cZ cJ a (va_up (va_up x 18 uu.1) 19 uu.2) f bm (va_up (va_up y 14 vv.2.1) 15 vv.2.2) yl (va_up g 0 vv.1) ao o) := hD
    obtain ⟨eK, R1⟩ := L_sensor R (xs ((5 * k) + 1)) (xs ((5 * k) + 2)) (nI 1) hu hv (by decide)
    refine lv_iload hx hb d_Law_law_865 (lv_at hl 0 rfl) ?_
    refine lv_icmp_eq (tgt := 872) hx hb d_Law_law_867 (by decide) (fun _ => ?_) (fun h => absurd (ht.trans eK) h)
    refine lv_goto (tgt := 1085) hx hb d_Law_law_872 (by decide) ?_
    refine lv_iinc (k := 5) (v := nI (5 * k + 5)) (lv' := [(4, .int (nI (5 * k + 5))), (5, .int kk), (0, .ref b), (1, .ref (a 0)), (2, .ref (bm 0)), (3, .ref ao)]) hx hb d_Law_law_1085 hl rfl (by rw [show Int32.ofInt 5 = nI 5 from by decide, nI_add]) (by decide) rfl (fun ls hl => ?_)
    refine lv_goto (tgt := 23) hx hb d_Law_law_1088 (by decide) ?_
    refine W.widen (k := 51 + (k + 1)) (n := 561 + 6 * (k + 1)) (by omega) (by omega) ?_
    exact ih (k + 1) _ _ _ _ _ _ _ _ _ (by omega) R1 (lv_sub hl [2, 3, 4, 5, 0] rfl) hP hD hS
set_option maxHeartbeats 8000000 in
set_option maxRecDepth 100000 in
theorem lc_13 {p : Program} {e : Env} {s : State} {m : MethodId} {below : List Frame} {meth : Method} {c : Code} (l : Launch) (hfl : l.flags = pinnedFlags ++ [noTraceFlag]) {b L : Nat} {xs : Nat → Int32} (hL : L ≤ 2560) (hx : p.tables.exec = Jvm.exec) (hb : c.code = code) (hr : meth.sig.returnType = ret) (hml : c.maxLocals = 7) (hown : s.vm.findClass R_Law = some m.cls) (zh : ∀ w ∈ lw_tbl, w.before #[Value.ref b] s = true) (hX : va_X b L xs s s.heap) (hbl : b < s.heap.size) (hlocks : meth.locks = false) {D : va_G} {cI cZ cJ : ClassId} (hK : va_K D classes (wK cI cZ cJ) s) {aT : Nat} {cT : Cell} (hT0 : s.heap[aT]? = some cT) (hTz : tz_S s aT cT) (hN : xn_S s) (a bm : Nat → Nat) (ao : Nat) {r k : Nat} {ls : Array Slot} {H : Heap} {locs : List Loc} {x : Nat → Nat → Int32} {f : Nat → Int32} {y : Nat → Nat → Int32} {yl : Nat → Nat → Int64} {g : Nat → Int32} {o : Nat → Int64} (ih : ∀ (k : Nat) (ls : Array Slot) (H : Heap) (locs : List Loc) (x : Nat → Nat → Int32) (f : Nat → Int32) (y : Nat → Nat → Int32) (yl : Nat → Nat → Int64) (g : Nat → Int32) (o : Nat → Int64), k + r = 512 → Rel x f y yl g → lv_has ls 7 [(0, .ref b), (1, .ref (a 0)), (2, .ref (bm 0)), (3, .ref ao), (4, .int (nI (5 * k)))] → va_P D classes (LWd cI cZ cJ a x f bm y yl g ao o) H → va_D (fun q => s.heap.size ≤ q) (LWd cI cZ cJ a x f bm y yl g ao o) → va_S (fun q => s.heap.size ≤ q) s.heap H locs → W p l e room_1 s m #[Value.ref b] below meth c H locs (51 + k) (561 + 6 * k) (lw_Z below #[Value.ref b] s) (F0 m 23 ls [])) (hk : k + (r + 1) = 512) (hi : 5 * k + 5 ≤ L) (R : Rel x f y yl g) (hl : lv_has ls 7 [(0, .ref b), (1, .ref (a 0)), (2, .ref (bm 0)), (3, .ref ao), (4, .int (nI (5 * k)))]) (hP : va_P D classes (LWd cI cZ cJ a x f bm y yl g ao o) H) (hD : va_D (fun q => s.heap.size ≤ q) (LWd cI cZ cJ a x f bm y yl g ao o)) (hS : va_S (fun q => s.heap.size ≤ q) s.heap H locs) : W p l e room_1 s m #[Value.ref b] below meth c H locs (51 + k) (561 + 6 * k) (lw_Z below #[Value.ref b] s) (F0 m 875 ls []) := by
  have hZ : s.WarmedH s.vm := State.WarmedH.refl s
  have haT : aT < s.heap.size := (Array.getElem?_eq_some_iff.mp hT0).1
  generalize hAe : (fun q : Nat => s.heap.size ≤ q) = A at hD hS ih
  have hA : ∀ q : Nat, s.heap.size ≤ q → A q := fun q h => by rw [← hAe]; exact h
  have haA : ¬ A aT := by rw [← hAe]; exact Nat.not_le.mpr haT
  have hbA : ¬ A b := by rw [← hAe]; exact Nat.not_le.mpr hbl
  refine lv_aload_n hx hb d_Law_law_875 rfl (lv_at hl 1 rfl) ?_
  refine lv_aload_n hx hb d_Law_law_876 rfl (lv_at hl 0 rfl) ?_
  refine lv_iload hx hb d_Law_law_877 (lv_at hl 4 rfl) ?_
  refine lv_iconst (v := nI 1) hx hb d_Law_law_879 (by decide) ?_
  refine nn_iadd hx hb d_Law_law_880 ?_
  refine nn_sld hx hb hX hbl hbA hS (j := (5 * k) + 1) (by omega) (by omega) d_Law_law_881 ?_
  refine lv_aload_n hx hb d_Law_law_882 rfl (lv_at hl 3 rfl) ?_
  have hTc : H[aT]? = some cT := by rw [hS.2.1 aT haT haA]; exact hT0
  refine kl_i (S := (Nat → Int32) × (Nat → Int32) × (Nat → Int32) × (Nat → Int64)) (fun uu => (LWd cI cZ cJ a (va_up (va_up (va_up x 27 uu.1) 10 uu.2.1) 12 uu.2.2.1) f bm y yl g ao uu.2.2.2)) (kx_H (As := [.ref (a 0), .int (xs ((5 * k) + 1)), .ref ao]) (rest := []) hTc hx hb hml hown hZ (c_hAhead l zh D cI cZ cJ hfl aT cT hTz hN (a 0) (a 1) (a 11) (a 14) (a 20) (a 27) (a 12) (a 13) (a 2) (a 3) (a 4) (a 5) (a 6) (a 7) (a 8) (a 9) (a 10) (a 15) (a 16) (a 17) (a 18) (a 19) ao _ (f 0) (x 27) (x 12) (x 13) (f 1) (f 2) (f 3) (f 4) (f 5) (f 6) (x 2) (x 3) (x 5) (x 6) (x 8) (x 9) (x 10) (x 16) o (xs ((5 * k) + 1)) (rl_id R) (rl_lo R) (rl_hi R)) (s_Law_126_Law_ahead zh hZ) (wd zh hZ 570 q_570 rfl) ⟨rfl, rfl, by decide, by decide⟩ (hP.sub [0, 27, 11, 12, 13, 1, 2, 3, 5, 6, 8, 9, 10, 14, 16, 50] rfl) hK (hD.sub [0, 27, 11, 12, 13, 1, 2, 3, 5, 6, 8, 9, 10, 14, 16, 50] (by decide) rfl) rfl hl.1 rfl (Nat.le_of_ble_eq_true rfl) d_Law_law_883 (by show 51 + k + 1 ≤ 1081; omega) (by show 561 + 6 * k + 6 ≤ 8789; omega)) hP hD hS hA 51 [0, 27, 11, 12, 13, 1, 2, 3, 5, 6, 8, 9, 10, 14, 16, 50] [4, 7, 15, 17, 18, 19, 20, 21, 22, 23, 24, 25, 26, 28, 29, 30, 31, 32, 33, 34, 35, 36, 37, 38, 39, 40, 41, 42, 43, 44, 45, 46, 47, 48, 49] rfl (fun _ => rfl) (fun _ => km_c rfl (km_c rfl (km_c rfl (km_c rfl (km_c rfl (km_c rfl (km_c rfl (km_c rfl (km_c rfl (km_c rfl (km_c rfl (km_c rfl (km_c rfl (km_c rfl (km_c rfl (km_c rfl (km_c rfl (km_c rfl (km_c rfl (km_c rfl (km_c rfl (km_c rfl (km_c rfl (km_c rfl (km_c rfl (km_c rfl (km_c rfl (km_c rfl (km_c rfl (km_c rfl (km_c rfl (km_c rfl (km_c rfl (km_c rfl (km_c rfl (km_n)))))))))))))))))))))))))))))))))))) (by decide) (by decide) (fun _ => rfl) (fun _ => rfl) rfl (fun kk uu H locs hu hP hD hS => ?_)
  have hP : va_P D classes (LWd cI cZ cJ a (va_up (va_up (va_up x 27 uu.1) 10 uu.2.1) 12 uu.2.2.1) f bm y yl g ao uu.2.2.2) H := hP
  have hD : va_D A (LWd cI cZ cJ a (va_up (va_up (va_up x 27 uu.1) 10 uu.2.1) 12 uu.2.2.1) f bm y yl g ao uu.2.2.2) := hD
  refine lv_istore (lv' := [(5, .int kk), (0, .ref b), (1, .ref (a 0)), (2, .ref (bm 0)), (3, .ref ao), (4, .int (nI (5 * k)))]) hx hb d_Law_law_886 hl (by decide) rfl (fun ls hl => ?_)
  refine lv_aload_n hx hb d_Law_law_888 rfl (lv_at hl 3 rfl) ?_
  refine lv_aload_n hx hb d_Law_law_889 rfl (lv_at hl 1 rfl) ?_
  refine lv_iload hx hb d_Law_law_890 (lv_at hl 5 rfl) ?_
  refine lv_iconst (v := nI 1) hx hb d_Law_law_892 (by decide) ?_
  refine nn_iadd hx hb d_Law_law_893 ?_
  refine nn_sld hx hb hX hbl hbA hS (j := (5 * k) + 1) (by omega) (by omega) d_Law_law_894 ?_
  refine ke_i (S := Int32 × (Nat → Int64) × (Nat → Int64) × (Nat → Int32)) (fun vv9 => (LWd cI cZ cJ a (va_up (va_up (va_up x 27 uu.1) 10 uu.2.1) 12 uu.2.2.1) f bm (va_up y 17 vv9.2.2.2) (va_up (va_up yl 12 vv9.2.1) 13 vv9.2.2.1) (va_up g 0 vv9.1) ao uu.2.2.2)) (kr_V (As := [.int (xs ((5 * k) + 1))]) (b := (bm 0)) (rest := []) (C := R_Model) hx hb hml hown hZ (c_mAhead l zh D cI cZ cJ (bm 0) (bm 1) (bm 2) (bm 3) (bm 4) (bm 5) (bm 6) (bm 7) (bm 8) (bm 9) (bm 10) (bm 11) (bm 12) (bm 13) (bm 14) (bm 15) (bm 16) (bm 17) (bm 18) (bm 19) (bm 20) (bm 21) _ (g 0) (g 1) (g 2) (g 3) (g 4) (g 5) (g 6) (g 7) (g 8) (g 9) (y 1) (y 2) (y 4) (y 5) (y 7) (y 8) (yl 10) (yl 12) (yl 13) (y 17) (xs ((5 * k) + 1)) (rl_mlo R) (rl_mhi R)) (s_Law_128_Model_ahead zh hZ) (wd zh hZ 828 q_828 rfl) (wd zh hZ 829 q_829 rfl) ⟨rfl, rfl, by decide, by decide⟩ (va_recv hK hP (ci := 5) rfl (q0 := 28) rfl) (hP.sub [28, 29, 30, 32, 33, 35, 36, 38, 40, 41, 45] rfl) hK (hD.sub [28, 29, 30, 32, 33, 35, 36, 38, 40, 41, 45] (by decide) rfl) rfl hl.1 rfl (Nat.le_of_ble_eq_true rfl) d_Law_law_895 (by show 51 + k + 1 ≤ 1081; omega) (by show 561 + 6 * k + 6 ≤ 8789; omega)) hP hD hS hA 51 [28, 29, 30, 32, 33, 35, 36, 38, 40, 41, 45] [0, 1, 2, 3, 4, 5, 6, 7, 8, 9, 10, 11, 12, 13, 14, 15, 16, 17, 18, 19, 20, 21, 22, 23, 24, 25, 26, 27, 31, 34, 37, 39, 42, 43, 44, 46, 47, 48, 49, 50] rfl (fun _ => rfl) (fun _ => km_c rfl (km_c rfl (km_c rfl (km_c rfl (km_c rfl (km_c rfl (km_c rfl (km_c rfl (km_c rfl (km_c rfl (km_c rfl (km_c rfl (km_c rfl (km_c rfl (km_c rfl (km_c rfl (km_c rfl (km_c rfl (km_c rfl (km_c rfl (km_c rfl (km_c rfl (km_c rfl (km_c rfl (km_c rfl (km_c rfl (km_c rfl (km_c rfl (km_c rfl (km_c rfl (km_c rfl (km_c rfl (km_c rfl (km_c rfl (km_c rfl (km_c rfl (km_c rfl (km_c rfl (km_c rfl (km_c rfl (km_n))))))))))))))))))))))))))))))))))))))))) (by decide) (by decide) (fun _ => rfl) (fun _ => rfl) rfl (fun bb vv H locs hv hP hD hS => ?_)
  have hP : va_P D classes (LWd cI cZ cJ a (va_up (va_up (va_up x 27 uu.1) 10 uu.2.1) 12 uu.2.2.1) f bm (va_up y 17 vv.2.2.2) (va_up (va_up yl 12 vv.2.1) 13 vv.2.2.1) (va_up g 0 vv.1) ao uu.2.2.2) H := hP
  have hD : va_D A (LWd cI cZ cJ a (va_up (va_up (va_up x 27 uu.1) 10 uu.2.1) 12 uu.2.2.1) f bm (va_up y 17 vv.2.2.2) (va_up (va_up yl 12 vv.2.1) 13 vv.2.2.1) (va_up g 0 vv.1) ao uu.2.2.2) := hD
  refine lv_istore (lv' := [(6, .int bb), (5, .int kk), (0, .ref b), (1, .ref (a 0)), (2, .ref (bm 0)), (3, .ref ao), (4, .int (nI (5 * k)))]) hx hb d_Law_law_898 hl (by decide) rfl (fun ls hl => ?_)
  refine lv_aload_n hx hb d_Law_law_900 rfl (lv_at hl 4 rfl) ?_
  refine ke_i (S := Unit) (fun vv9 => (LWd cI cZ cJ a (va_up (va_up (va_up x 27 uu.1) 10 uu.2.1) 12 uu.2.2.1) f bm (va_up y 17 vv.2.2.2) (va_up (va_up yl 12 vv.2.1) 13 vv.2.2.1) (va_up g 0 vv.1) ao uu.2.2.2)) (kr_V (As := []) (b := (bm 0)) (rest := []) (C := R_Model) hx hb hml hown hZ (c_mThrown l zh D cI cZ cJ (bm 0) (bm 1) (bm 2) (bm 3) (bm 4) (bm 5) (bm 6) (bm 7) (bm 8) (bm 9) (bm 10) (bm 11) (bm 12) (bm 13) (bm 14) (bm 15) (bm 16) (bm 17) (bm 18) (bm 19) (bm 20) (bm 21) _ ((va_up g 0 vv.1) 0) ((va_up g 0 vv.1) 1) ((va_up g 0 vv.1) 2) ((va_up g 0 vv.1) 3) ((va_up g 0 vv.1) 4) ((va_up g 0 vv.1) 5) ((va_up g 0 vv.1) 6) ((va_up g 0 vv.1) 7) ((va_up g 0 vv.1) 8) ((va_up g 0 vv.1) 9)) (s_Law_82_Model_thrown zh hZ) (wd zh hZ 698 q_698 rfl) (wd zh hZ 699 q_699 rfl) ⟨rfl, rfl, by decide, by decide⟩ (va_recv hK hP (ci := 5) rfl (q0 := 28) rfl) (hP.sub [28] rfl) hK (hD.sub [28] (by decide) rfl) rfl hl.1 rfl (Nat.le_of_ble_eq_true rfl) d_Law_law_901 (by show 51 + k + 1 ≤ 1081; omega) (by show 561 + 6 * k + 6 ≤ 8789; omega)) hP hD hS hA 51 [28] [0, 1, 2, 3, 4, 5, 6, 7, 8, 9, 10, 11, 12, 13, 14, 15, 16, 17, 18, 19, 20, 21, 22, 23, 24, 25, 26, 27, 29, 30, 31, 32, 33, 34, 35, 36, 37, 38, 39, 40, 41, 42, 43, 44, 45, 46, 47, 48, 49, 50] rfl (fun _ => rfl) (fun _ => km_c rfl (km_c rfl (km_c rfl (km_c rfl (km_c rfl (km_c rfl (km_c rfl (km_c rfl (km_c rfl (km_c rfl (km_c rfl (km_c rfl (km_c rfl (km_c rfl (km_c rfl (km_c rfl (km_c rfl (km_c rfl (km_c rfl (km_c rfl (km_c rfl (km_c rfl (km_c rfl (km_c rfl (km_c rfl (km_c rfl (km_c rfl (km_c rfl (km_c rfl (km_c rfl (km_c rfl (km_c rfl (km_c rfl (km_c rfl (km_c rfl (km_c rfl (km_c rfl (km_c rfl (km_c rfl (km_c rfl (km_c rfl (km_c rfl (km_c rfl (km_c rfl (km_c rfl (km_c rfl (km_c rfl (km_c rfl (km_c rfl (km_c rfl (km_n))))))))))))))))))))))))))))))))))))))))))))))))))) (by decide) (by decide) (fun _ => rfl) (fun _ => rfl) rfl (fun tt ww H locs ht hP hD hS => ?_)
  have hP : va_P D classes (LWd cI cZ cJ a (va_up (va_up (va_up x 27 uu.1) 10 uu.2.1) 12 uu.2.2.1) f bm (va_up y 17 vv.2.2.2) (va_up (va_up yl 12 vv.2.1) 13 vv.2.2.1) (va_up g 0 vv.1) ao uu.2.2.2) H := hP
  have hD : va_D A (LWd cI cZ cJ a (va_up (va_up (va_up x 27 uu.1) 10 uu.2.1) 12 uu.2.2.1) f bm (va_up y 17 vv.2.2.2) (va_up (va_up yl 12 vv.2.1) 13 vv.2.2.1) (va_up g 0 vv.1) ao uu.2.2.2) := hD
  obtain ⟨eK, eO, R1⟩ := L_ahead R (xs ((5 * k) + 1)) hu hv
  refine lv_iload hx hb d_Law_law_904 (lv_at hl 1 rfl) ?_
  refine lv_icmp_eq (tgt := 911) hx hb d_Law_law_906 (by decide) (fun _ => ?_) (fun h => absurd (ht.trans eK) h)
  refine lv_iload hx hb d_Law_law_911 (lv_at hl 1 rfl) ?_
  refine lv_if_ne (tgt := 935) hx hb d_Law_law_913 (by decide) (fun h1 => ?_) (fun h1 => ?_)
  ·
    refine lv_goto (tgt := 1085) hx hb d_Law_law_935 (by decide) ?_
    refine lv_iinc (k := 6) (v := nI (5 * k + 5)) (lv' := [(4, .int (nI (5 * k + 5))), (6, .int bb), (5, .int kk), (0, .ref b), (1, .ref (a 0)), (2, .ref (bm 0)), (3, .ref ao)]) hx hb d_Law_law_1085 hl rfl (by rw [show Int32.ofInt 5 = nI 5 from by decide, nI_add]) (by decide) rfl (fun ls hl => ?_)
    refine lv_goto (tgt := 23) hx hb d_Law_law_1088 (by decide) ?_
    refine W.widen (k := 51 + (k + 1)) (n := 561 + 6 * (k + 1)) (by omega) (by omega) ?_
    exact ih (k + 1) _ _ _ _ _ _ _ _ _ (by omega) R1 (lv_sub hl [3, 4, 5, 6, 0] rfl) hP hD hS
  ·
    refine lv_aload_n hx hb d_Law_law_916 rfl (lv_at hl 5 rfl) ?_
    refine lv_iconst (v := nI 0) hx hb d_Law_law_917 (by decide) ?_
    refine nn_lald hx hb hK hP 50 2 rfl rfl (j := 0) (by decide) (by decide) d_Law_law_918 ?_
    refine lv_iload hx hb d_Law_law_919 (lv_at hl 0 rfl) ?_
    refine lv_if_eq (tgt := 928) hx hb d_Law_law_921 (by decide) (fun h2 => ?_) (fun h2 => ?_)
    ·
      refine lv_lconst (v := 0) hx hb d_Law_law_928 (by decide) ?_
      refine W.lcmp hx hb d_Law_law_929 ?_
      refine lv_if_eq (tgt := 935) hx hb d_Law_law_930 (by decide) (fun _ => ?_) (fun h => absurd (lg_cmp_0 ((eO h1).trans (if_pos h2))) h)
      refine lv_goto (tgt := 1085) hx hb d_Law_law_935 (by decide) ?_
      refine lv_iinc (k := 6) (v := nI (5 * k + 5)) (lv' := [(4, .int (nI (5 * k + 5))), (6, .int bb), (5, .int kk), (0, .ref b), (1, .ref (a 0)), (2, .ref (bm 0)), (3, .ref ao)]) hx hb d_Law_law_1085 hl rfl (by rw [show Int32.ofInt 5 = nI 5 from by decide, nI_add]) (by decide) rfl (fun ls hl => ?_)
      refine lv_goto (tgt := 23) hx hb d_Law_law_1088 (by decide) ?_
      refine W.widen (k := 51 + (k + 1)) (n := 561 + 6 * (k + 1)) (by omega) (by omega) ?_
      exact ih (k + 1) _ _ _ _ _ _ _ _ _ (by omega) R1 (lv_sub hl [3, 4, 5, 6, 0] rfl) hP hD hS
    ·
      refine lv_lconst (v := 1) hx hb d_Law_law_924 (by decide) ?_
      refine lv_goto (tgt := 929) hx hb d_Law_law_925 (by decide) ?_
      refine W.lcmp hx hb d_Law_law_929 ?_
      refine lv_if_eq (tgt := 935) hx hb d_Law_law_930 (by decide) (fun _ => ?_) (fun h => absurd (lg_cmp_0 ((eO h1).trans (if_neg h2))) h)
      refine lv_goto (tgt := 1085) hx hb d_Law_law_935 (by decide) ?_
      refine lv_iinc (k := 6) (v := nI (5 * k + 5)) (lv' := [(4, .int (nI (5 * k + 5))), (6, .int bb), (5, .int kk), (0, .ref b), (1, .ref (a 0)), (2, .ref (bm 0)), (3, .ref ao)]) hx hb d_Law_law_1085 hl rfl (by rw [show Int32.ofInt 5 = nI 5 from by decide, nI_add]) (by decide) rfl (fun ls hl => ?_)
      refine lv_goto (tgt := 23) hx hb d_Law_law_1088 (by decide) ?_
      refine W.widen (k := 51 + (k + 1)) (n := 561 + 6 * (k + 1)) (by omega) (by omega) ?_
      exact ih (k + 1) _ _ _ _ _ _ _ _ _ (by omega) R1 (lv_sub hl [3, 4, 5, 6, 0] rfl) hP hD hS
set_option maxHeartbeats 8000000 in
set_option maxRecDepth 100000 in
theorem lc_14 {p : Program} {e : Env} {s : State} {m : MethodId} {below : List Frame} {meth : Method} {c : Code} (l : Launch) (hfl : l.flags = pinnedFlags ++ [noTraceFlag]) {b L : Nat} {xs : Nat → Int32} (hL : L ≤ 2560) (hx : p.tables.exec = Jvm.exec) (hb : c.code = code) (hr : meth.sig.returnType = ret) (hml : c.maxLocals = 7) (hown : s.vm.findClass R_Law = some m.cls) (zh : ∀ w ∈ lw_tbl, w.before #[Value.ref b] s = true) (hX : va_X b L xs s s.heap) (hbl : b < s.heap.size) (hlocks : meth.locks = false) {D : va_G} {cI cZ cJ : ClassId} (hK : va_K D classes (wK cI cZ cJ) s) {aT : Nat} {cT : Cell} (hT0 : s.heap[aT]? = some cT) (hTz : tz_S s aT cT) (hN : xn_S s) (a bm : Nat → Nat) (ao : Nat) {r k : Nat} {ls : Array Slot} {H : Heap} {locs : List Loc} {x : Nat → Nat → Int32} {f : Nat → Int32} {y : Nat → Nat → Int32} {yl : Nat → Nat → Int64} {g : Nat → Int32} {o : Nat → Int64} (ih : ∀ (k : Nat) (ls : Array Slot) (H : Heap) (locs : List Loc) (x : Nat → Nat → Int32) (f : Nat → Int32) (y : Nat → Nat → Int32) (yl : Nat → Nat → Int64) (g : Nat → Int32) (o : Nat → Int64), k + r = 512 → Rel x f y yl g → lv_has ls 7 [(0, .ref b), (1, .ref (a 0)), (2, .ref (bm 0)), (3, .ref ao), (4, .int (nI (5 * k)))] → va_P D classes (LWd cI cZ cJ a x f bm y yl g ao o) H → va_D (fun q => s.heap.size ≤ q) (LWd cI cZ cJ a x f bm y yl g ao o) → va_S (fun q => s.heap.size ≤ q) s.heap H locs → W p l e room_1 s m #[Value.ref b] below meth c H locs (51 + k) (561 + 6 * k) (lw_Z below #[Value.ref b] s) (F0 m 23 ls [])) (hk : k + (r + 1) = 512) (hi : 5 * k + 5 ≤ L) (R : Rel x f y yl g) (hl : lv_has ls 7 [(0, .ref b), (1, .ref (a 0)), (2, .ref (bm 0)), (3, .ref ao), (4, .int (nI (5 * k)))]) (hP : va_P D classes (LWd cI cZ cJ a x f bm y yl g ao o) H) (hD : va_D (fun q => s.heap.size ≤ q) (LWd cI cZ cJ a x f bm y yl g ao o)) (hS : va_S (fun q => s.heap.size ≤ q) s.heap H locs) : W p l e room_1 s m #[Value.ref b] below meth c H locs (51 + k) (561 + 6 * k) (lw_Z below #[Value.ref b] s) (F0 m 938 ls []) := by
  have hZ : s.WarmedH s.vm := State.WarmedH.refl s
  have haT : aT < s.heap.size := (Array.getElem?_eq_some_iff.mp hT0).1
  generalize hAe : (fun q : Nat => s.heap.size ≤ q) = A at hD hS ih
  have hA : ∀ q : Nat, s.heap.size ≤ q → A q := fun q h => by rw [← hAe]; exact h
  have haA : ¬ A aT := by rw [← hAe]; exact Nat.not_le.mpr haT
  have hbA : ¬ A b := by rw [← hAe]; exact Nat.not_le.mpr hbl
  refine lv_aload_n hx hb d_Law_law_938 rfl (lv_at hl 1 rfl) ?_
  refine lv_aload_n hx hb d_Law_law_939 rfl (lv_at hl 0 rfl) ?_
  refine lv_iload hx hb d_Law_law_940 (lv_at hl 4 rfl) ?_
  refine lv_iconst (v := nI 1) hx hb d_Law_law_942 (by decide) ?_
  refine nn_iadd hx hb d_Law_law_943 ?_
  refine nn_sld hx hb hX hbl hbA hS (j := (5 * k) + 1) (by omega) (by omega) d_Law_law_944 ?_
  refine lv_aload_n hx hb d_Law_law_945 rfl (lv_at hl 0 rfl) ?_
  refine lv_iload hx hb d_Law_law_946 (lv_at hl 4 rfl) ?_
  refine lv_iconst (v := nI 2) hx hb d_Law_law_948 (by decide) ?_
  refine nn_iadd hx hb d_Law_law_949 ?_
  refine nn_sld hx hb hX hbl hbA hS (j := (5 * k) + 2) (by omega) (by omega) d_Law_law_950 ?_
  refine lv_aload_n hx hb d_Law_law_951 rfl (lv_at hl 3 rfl) ?_
  have hTc : H[aT]? = some cT := by rw [hS.2.1 aT haT haA]; exact hT0
  refine kl_i (S := (Nat → Int64)) (fun uu => (LWd cI cZ cJ a x f bm y yl g ao uu)) (kx_H (As := [.ref (a 0), .int (xs ((5 * k) + 1)), .int (xs ((5 * k) + 2)), .ref ao]) (rest := []) hTc hx hb hml hown hZ (c_hNode l zh D cI cZ cJ hfl aT cT hTz hN (a 0) (a 1) (a 11) (a 14) (a 20) (a 27) (a 15) (a 16) (a 17) (a 18) (a 19) ao _ (f 0) (x 15) (x 16) (x 17) (x 18) (x 19) o (xs ((5 * k) + 1)) (xs ((5 * k) + 2))) (s_Law_129_Law_node zh hZ) (wd zh hZ 577 q_577 rfl) ⟨rfl, rfl, by decide, by decide⟩ (hP.sub [0, 14, 15, 16, 17, 18, 19, 50] rfl) hK (hD.sub [0, 14, 15, 16, 17, 18, 19, 50] (by decide) rfl) rfl hl.1 rfl (Nat.le_of_ble_eq_true rfl) d_Law_law_952 (by show 51 + k + 1 ≤ 1081; omega) (by show 561 + 6 * k + 6 ≤ 8789; omega)) hP hD hS hA 51 [0, 14, 15, 16, 17, 18, 19, 50] [1, 2, 3, 4, 5, 6, 7, 8, 9, 10, 11, 12, 13, 20, 21, 22, 23, 24, 25, 26, 27, 28, 29, 30, 31, 32, 33, 34, 35, 36, 37, 38, 39, 40, 41, 42, 43, 44, 45, 46, 47, 48, 49] rfl (fun _ => rfl) (fun _ => km_c rfl (km_c rfl (km_c rfl (km_c rfl (km_c rfl (km_c rfl (km_c rfl (km_c rfl (km_c rfl (km_c rfl (km_c rfl (km_c rfl (km_c rfl (km_c rfl (km_c rfl (km_c rfl (km_c rfl (km_c rfl (km_c rfl (km_c rfl (km_c rfl (km_c rfl (km_c rfl (km_c rfl (km_c rfl (km_c rfl (km_c rfl (km_c rfl (km_c rfl (km_c rfl (km_c rfl (km_c rfl (km_c rfl (km_c rfl (km_c rfl (km_c rfl (km_c rfl (km_c rfl (km_c rfl (km_c rfl (km_c rfl (km_c rfl (km_c rfl (km_n)))))))))))))))))))))))))))))))))))))))))))) (by decide) (by decide) (fun _ => rfl) (fun _ => rfl) rfl (fun kk uu H locs hu hP hD hS => ?_)
  have hP : va_P D classes (LWd cI cZ cJ a x f bm y yl g ao uu) H := hP
  have hD : va_D A (LWd cI cZ cJ a x f bm y yl g ao uu) := hD
  refine lv_istore (lv' := [(5, .int kk), (0, .ref b), (1, .ref (a 0)), (2, .ref (bm 0)), (3, .ref ao), (4, .int (nI (5 * k)))]) hx hb d_Law_law_955 hl (by decide) rfl (fun ls hl => ?_)
  refine lv_aload_n hx hb d_Law_law_957 rfl (lv_at hl 3 rfl) ?_
  refine lv_aload_n hx hb d_Law_law_958 rfl (lv_at hl 1 rfl) ?_
  refine lv_iload hx hb d_Law_law_959 (lv_at hl 5 rfl) ?_
  refine lv_iconst (v := nI 1) hx hb d_Law_law_961 (by decide) ?_
  refine nn_iadd hx hb d_Law_law_962 ?_
  refine nn_sld hx hb hX hbl hbA hS (j := (5 * k) + 1) (by omega) (by omega) d_Law_law_963 ?_
  refine lv_aload_n hx hb d_Law_law_964 rfl (lv_at hl 1 rfl) ?_
  refine lv_iload hx hb d_Law_law_965 (lv_at hl 5 rfl) ?_
  refine lv_iconst (v := nI 2) hx hb d_Law_law_967 (by decide) ?_
  refine nn_iadd hx hb d_Law_law_968 ?_
  refine nn_sld hx hb hX hbl hbA hS (j := (5 * k) + 2) (by omega) (by omega) d_Law_law_969 ?_
  refine ke_i (S := Int32) (fun vv9 => (LWd cI cZ cJ a x f bm y yl (va_up g 0 vv9) ao uu)) (kr_V (As := [.int (xs ((5 * k) + 1)), .int (xs ((5 * k) + 2))]) (b := (bm 0)) (rest := []) (C := R_Model) hx hb hml hown hZ (c_mNode l zh D cI cZ cJ (bm 0) (bm 1) (bm 2) (bm 3) (bm 4) (bm 5) (bm 6) (bm 7) (bm 8) (bm 9) (bm 10) (bm 11) (bm 12) (bm 13) (bm 14) (bm 15) (bm 16) (bm 17) (bm 18) (bm 19) (bm 20) (bm 21) _ (g 0) (g 1) (g 2) (g 3) (g 4) (g 5) (g 6) (g 7) (g 8) (g 9) (yl 9) (yl 10) (yl 11) (y 14) (y 15) (xs ((5 * k) + 1)) (xs ((5 * k) + 2))) (s_Law_132_Model_node zh hZ) (wd zh hZ 832 q_832 rfl) (wd zh hZ 833 q_833 rfl) ⟨rfl, rfl, by decide, by decide⟩ (va_recv hK hP (ci := 5) rfl (q0 := 28) rfl) (hP.sub [28, 37, 38, 39, 42, 43] rfl) hK (hD.sub [28, 37, 38, 39, 42, 43] (by decide) rfl) rfl hl.1 rfl (Nat.le_of_ble_eq_true rfl) d_Law_law_970 (by show 51 + k + 1 ≤ 1081; omega) (by show 561 + 6 * k + 6 ≤ 8789; omega)) hP hD hS hA 51 [28, 37, 38, 39, 42, 43] [0, 1, 2, 3, 4, 5, 6, 7, 8, 9, 10, 11, 12, 13, 14, 15, 16, 17, 18, 19, 20, 21, 22, 23, 24, 25, 26, 27, 29, 30, 31, 32, 33, 34, 35, 36, 40, 41, 44, 45, 46, 47, 48, 49, 50] rfl (fun _ => rfl) (fun _ => km_c rfl (km_c rfl (km_c rfl (km_c rfl (km_c rfl (km_c rfl (km_c rfl (km_c rfl (km_c rfl (km_c rfl (km_c rfl (km_c rfl (km_c rfl (km_c rfl (km_c rfl (km_c rfl (km_c rfl (km_c rfl (km_c rfl (km_c rfl (km_c rfl (km_c rfl (km_c rfl (km_c rfl (km_c rfl (km_c rfl (km_c rfl (km_c rfl (km_c rfl (km_c rfl (km_c rfl (km_c rfl (km_c rfl (km_c rfl (km_c rfl (km_c rfl (km_c rfl (km_c rfl (km_c rfl (km_c rfl (km_c rfl (km_c rfl (km_c rfl (km_c rfl (km_c rfl (km_n)))))))))))))))))))))))))))))))))))))))))))))) (by decide) (by decide) (fun _ => rfl) (fun _ => rfl) rfl (fun bb vv H locs hv hP hD hS => ?_)
  have hP : va_P D classes (LWd cI cZ cJ a x f bm y yl (va_up g 0 vv) ao uu) H := hP
  have hD : va_D A (LWd cI cZ cJ a x f bm y yl (va_up g 0 vv) ao uu) := hD
  refine lv_istore (lv' := [(6, .int bb), (5, .int kk), (0, .ref b), (1, .ref (a 0)), (2, .ref (bm 0)), (3, .ref ao), (4, .int (nI (5 * k)))]) hx hb d_Law_law_973 hl (by decide) rfl (fun ls hl => ?_)
  refine lv_aload_n hx hb d_Law_law_975 rfl (lv_at hl 4 rfl) ?_
  refine ke_i (S := Unit) (fun vv9 => (LWd cI cZ cJ a x f bm y yl (va_up g 0 vv) ao uu)) (kr_V (As := []) (b := (bm 0)) (rest := []) (C := R_Model) hx hb hml hown hZ (c_mThrown l zh D cI cZ cJ (bm 0) (bm 1) (bm 2) (bm 3) (bm 4) (bm 5) (bm 6) (bm 7) (bm 8) (bm 9) (bm 10) (bm 11) (bm 12) (bm 13) (bm 14) (bm 15) (bm 16) (bm 17) (bm 18) (bm 19) (bm 20) (bm 21) _ ((va_up g 0 vv) 0) ((va_up g 0 vv) 1) ((va_up g 0 vv) 2) ((va_up g 0 vv) 3) ((va_up g 0 vv) 4) ((va_up g 0 vv) 5) ((va_up g 0 vv) 6) ((va_up g 0 vv) 7) ((va_up g 0 vv) 8) ((va_up g 0 vv) 9)) (s_Law_82_Model_thrown zh hZ) (wd zh hZ 698 q_698 rfl) (wd zh hZ 699 q_699 rfl) ⟨rfl, rfl, by decide, by decide⟩ (va_recv hK hP (ci := 5) rfl (q0 := 28) rfl) (hP.sub [28] rfl) hK (hD.sub [28] (by decide) rfl) rfl hl.1 rfl (Nat.le_of_ble_eq_true rfl) d_Law_law_976 (by show 51 + k + 1 ≤ 1081; omega) (by show 561 + 6 * k + 6 ≤ 8789; omega)) hP hD hS hA 51 [28] [0, 1, 2, 3, 4, 5, 6, 7, 8, 9, 10, 11, 12, 13, 14, 15, 16, 17, 18, 19, 20, 21, 22, 23, 24, 25, 26, 27, 29, 30, 31, 32, 33, 34, 35, 36, 37, 38, 39, 40, 41, 42, 43, 44, 45, 46, 47, 48, 49, 50] rfl (fun _ => rfl) (fun _ => km_c rfl (km_c rfl (km_c rfl (km_c rfl (km_c rfl (km_c rfl (km_c rfl (km_c rfl (km_c rfl (km_c rfl (km_c rfl (km_c rfl (km_c rfl (km_c rfl (km_c rfl (km_c rfl (km_c rfl (km_c rfl (km_c rfl (km_c rfl (km_c rfl (km_c rfl (km_c rfl (km_c rfl (km_c rfl (km_c rfl (km_c rfl (km_c rfl (km_c rfl (km_c rfl (km_c rfl (km_c rfl (km_c rfl (km_c rfl (km_c rfl (km_c rfl (km_c rfl (km_c rfl (km_c rfl (km_c rfl (km_c rfl (km_c rfl (km_c rfl (km_c rfl (km_c rfl (km_c rfl (km_c rfl (km_c rfl (km_c rfl (km_c rfl (km_n))))))))))))))))))))))))))))))))))))))))))))))))))) (by decide) (by decide) (fun _ => rfl) (fun _ => rfl) rfl (fun tt ww H locs ht hP hD hS => ?_)
  have hP : va_P D classes (LWd cI cZ cJ a x f bm y yl (va_up g 0 vv) ao uu) H := hP
  have hD : va_D A (LWd cI cZ cJ a x f bm y yl (va_up g 0 vv) ao uu) := hD
  obtain ⟨eK, eO, R1⟩ := L_node R (xs ((5 * k) + 1)) (xs ((5 * k) + 2)) hu hv
  refine lv_iload hx hb d_Law_law_979 (lv_at hl 1 rfl) ?_
  refine lv_icmp_eq (tgt := 986) hx hb d_Law_law_981 (by decide) (fun _ => ?_) (fun h => absurd (ht.trans eK) h)
  refine lv_iload hx hb d_Law_law_986 (lv_at hl 1 rfl) ?_
  refine lv_if_ne (tgt := 1003) hx hb d_Law_law_988 (by decide) (fun h1 => ?_) (fun h1 => ?_)
  ·
    refine lv_goto (tgt := 1085) hx hb d_Law_law_1003 (by decide) ?_
    refine lv_iinc (k := 6) (v := nI (5 * k + 5)) (lv' := [(4, .int (nI (5 * k + 5))), (6, .int bb), (5, .int kk), (0, .ref b), (1, .ref (a 0)), (2, .ref (bm 0)), (3, .ref ao)]) hx hb d_Law_law_1085 hl rfl (by rw [show Int32.ofInt 5 = nI 5 from by decide, nI_add]) (by decide) rfl (fun ls hl => ?_)
    refine lv_goto (tgt := 23) hx hb d_Law_law_1088 (by decide) ?_
    refine W.widen (k := 51 + (k + 1)) (n := 561 + 6 * (k + 1)) (by omega) (by omega) ?_
    exact ih (k + 1) _ _ _ _ _ _ _ _ _ (by omega) R1 (lv_sub hl [3, 4, 5, 6, 0] rfl) hP hD hS
  ·
    refine lv_aload_n hx hb d_Law_law_991 rfl (lv_at hl 5 rfl) ?_
    refine lv_iconst (v := nI 0) hx hb d_Law_law_992 (by decide) ?_
    refine nn_lald hx hb hK hP 50 2 rfl rfl (j := 0) (by decide) (by decide) d_Law_law_993 ?_
    refine lv_iload hx hb d_Law_law_994 (lv_at hl 0 rfl) ?_
    refine lv_i2l (v := bb.toInt64) hx hb d_Law_law_996 rfl ?_
    refine W.lcmp hx hb d_Law_law_997 ?_
    refine lv_if_eq (tgt := 1003) hx hb d_Law_law_998 (by decide) (fun _ => ?_) (fun h => absurd (lg_cmp_0 (eO h1)) h)
    refine lv_goto (tgt := 1085) hx hb d_Law_law_1003 (by decide) ?_
    refine lv_iinc (k := 6) (v := nI (5 * k + 5)) (lv' := [(4, .int (nI (5 * k + 5))), (6, .int bb), (5, .int kk), (0, .ref b), (1, .ref (a 0)), (2, .ref (bm 0)), (3, .ref ao)]) hx hb d_Law_law_1085 hl rfl (by rw [show Int32.ofInt 5 = nI 5 from by decide, nI_add]) (by decide) rfl (fun ls hl => ?_)
    refine lv_goto (tgt := 23) hx hb d_Law_law_1088 (by decide) ?_
    refine W.widen (k := 51 + (k + 1)) (n := 561 + 6 * (k + 1)) (by omega) (by omega) ?_
    exact ih (k + 1) _ _ _ _ _ _ _ _ _ (by omega) R1 (lv_sub hl [3, 4, 5, 6, 0] rfl) hP hD hS

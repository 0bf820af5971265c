set_option maxHeartbeats 8000000 in
set_option maxRecDepth 100000 in
theorem lc_0 {p : Program} {e : Env} {s : State} {m : MethodId} {below : List Frame} {meth : Method} {c : Code} (l : Launch) (hfl : l.flags = pinnedFlags ++ [noTraceFlag]) {b L : Nat} {xs : Nat → Int32} (hL : L ≤ 2560) (hx : p.tables.exec = Jvm.exec) (hb : c.code = code) (hr : meth.sig.returnType = ret) (hml : c.maxLocals = 7) (hown : s.vm.findClass R_Law = some m.cls) (zh : ∀ w ∈ lw_tbl, w.before #[Value.ref b] s = true) (hX : va_X b L xs s s.heap) (hbl : b < s.heap.size) (hlocks : meth.locks = false) {D : va_G} {cI cZ cJ : ClassId} (hK : va_K D classes (wK cI cZ cJ) s) {aT : Nat} {cT : Cell} (hT0 : s.heap[aT]? = some cT) (hTz : tz_S s aT cT) (hN : xn_S s) (a bm : Nat → Nat) (ao : Nat) {r k : Nat} {ls : Array Slot} {H : Heap} {locs : List Loc} {x : Nat → Nat → Int32} {f : Nat → Int32} {y : Nat → Nat → Int32} {yl : Nat → Nat → Int64} {g : Nat → Int32} {o : Nat → Int64} (ih : ∀ (k : Nat) (ls : Array Slot) (H : Heap) (locs : List Loc) (x : Nat → Nat → Int32) (f : Nat → Int32) (y : Nat → Nat → Int32) (yl : Nat → Nat → Int64) (g : Nat → Int32) (o : Nat → Int64), k + r = 512 → Rel x f y yl g → lv_has ls 7 [(0, .ref b), (1, .ref (a 0)), (2, .ref (bm 0)), (3, .ref ao), (4, .int (nI (5 * k)))] → va_P D classes (LWd cI cZ cJ a x f bm y yl g ao o) H → va_D (fun q => s.heap.size ≤ q) (LWd cI cZ cJ a x f bm y yl g ao o) → va_S (fun q => s.heap.size ≤ q) s.heap H locs → W p l e room_1 s m #[Value.ref b] below meth c H locs (51 + k) (561 + 6 * k) (lw_Z below #[Value.ref b] s) (F0 m 23 ls [])) (hk : k + (r + 1) = 512) (hi : 5 * k + 5 ≤ L) (R : Rel x f y yl g) (hl : lv_has ls 7 [(0, .ref b), (1, .ref (a 0)), (2, .ref (bm 0)), (3, .ref ao), (4, .int (nI (5 * k)))]) (hP : va_P D classes (LWd cI cZ cJ a x f bm y yl g ao o) H) (hD : va_D (fun q => s.heap.size ≤ q) (LWd cI cZ cJ a x f bm y yl g ao o)) (hS : va_S (fun q => s.heap.size ≤ q) s.heap H locs) : W p l e room_1 s m #[Value.ref b] below meth c H locs (51 + k) (561 + 6 * k) (lw_Z below #[Value.ref b] s) (F0 m 120 ls []) := by
  have hZ : s.WarmedH s.vm := State.WarmedH.refl s
  have haT : aT < s.heap.size := (Array.getElem?_eq_some_iff.mp hT0).1
  generalize hAe : (fun q : Nat => s.heap.size ≤ q) = A at hD hS ih
  have hA : ∀ q : Nat, s.heap.size ≤ q → A q := fun q h => by rw [← hAe]; exact h
  have haA : ¬ A aT := by rw [← hAe]; exact Nat.not_le.mpr haT
  have hbA : ¬ A b := by rw [← hAe]; exact Nat.not_le.mpr hbl
  refine lv_aload_n hx hb d_Law_law_120 rfl (lv_at hl 1 rfl) ?_
  refine lv_aload_n hx hb d_Law_law_121 rfl (lv_at hl 0 rfl) ?_
  refine lv_iload hx hb d_Law_law_122 (lv_at hl 4 rfl) ?_
  refine lv_iconst (v := nI 1) hx hb d_Law_law_124 (by decide) ?_
  refine nn_iadd hx hb d_Law_law_125 ?_
  refine nn_sld hx hb hX hbl hbA hS (j := (5 * k) + 1) (by omega) (by omega) d_Law_law_126 ?_
  refine lv_aload_n hx hb d_Law_law_127 rfl (lv_at hl 0 rfl) ?_
  refine lv_iload hx hb d_Law_law_128 (lv_at hl 4 rfl) ?_
  refine lv_iconst (v := nI 2) hx hb d_Law_law_130 (by decide) ?_
  refine nn_iadd hx hb d_Law_law_131 ?_
  refine nn_sld hx hb hX hbl hbA hS (j := (5 * k) + 2) (by omega) (by omega) d_Law_law_132 ?_
  refine lv_aload_n hx hb d_Law_law_133 rfl (lv_at hl 0 rfl) ?_
  refine lv_iload hx hb d_Law_law_134 (lv_at hl 4 rfl) ?_
  refine lv_iconst (v := nI 3) hx hb d_Law_law_136 (by decide) ?_
  refine nn_iadd hx hb d_Law_law_137 ?_
  refine nn_sld hx hb hX hbl hbA hS (j := (5 * k) + 3) (by omega) (by omega) d_Law_law_138 ?_
  have hTc : H[aT]? = some cT := by rw [hS.2.1 aT haT haA]; exact hT0
  refine kl_i (S := (Nat → Int32) × (Nat → Int32) × (Nat → Int32)) (fun uu => (LWd cI cZ cJ a (va_up (va_up (va_up x 2 uu.1) 3 uu.2.1) 4 uu.2.2) f bm y yl g ao o)) (kx_H (As := [.ref (a 0), .int (xs ((5 * k) + 1)), .int (xs ((5 * k) + 2)), .int (xs ((5 * k) + 3))]) (rest := []) hTc hx hb hml hown hZ (c_hCapacity l zh D cI cZ cJ hfl aT cT hTz hN (a 0) (a 1) (a 11) (a 14) (a 20) (a 27) (a 2) (a 3) (a 4) (a 5) (a 6) (a 7) (a 8) (a 9) (a 10) _ (f 0) (f 1) (f 2) (f 3) (f 4) (f 5) (f 6) (x 2) (x 3) (x 4) (xs ((5 * k) + 1)) (xs ((5 * k) + 2)) (xs ((5 * k) + 3))) (s_Law_76_Law_capacity zh hZ) (wd zh hZ 230 q_230 rfl) ⟨rfl, rfl, by decide, by decide⟩ (hP.sub [0, 1, 2, 3, 4] rfl) hK (hD.sub [0, 1, 2, 3, 4] (by decide) rfl) rfl hl.1 rfl (Nat.le_of_ble_eq_true rfl) d_Law_law_139 (by show 51 + k + 1 ≤ 1081; omega) (by show 561 + 6 * k + 6 ≤ 8789; omega)) hP hD hS hA 51 [0, 1, 2, 3, 4] [5, 6, 7, 8, 9, 10, 11, 12, 13, 14, 15, 16, 17, 18, 19, 20, 21, 22, 23, 24, 25, 26, 27, 28, 29, 30, 31, 32, 33, 34, 35, 36, 37, 38, 39, 40, 41, 42, 43, 44, 45, 46, 47, 48, 49, 50] rfl (fun _ => rfl) (fun _ => km_c rfl (km_c rfl (km_c rfl (km_c rfl (km_c rfl (km_c rfl (km_c rfl (km_c rfl (km_c rfl (km_c rfl (km_c rfl (km_c rfl (km_c rfl (km_c rfl (km_c rfl (km_c rfl (km_c rfl (km_c rfl (km_c rfl (km_c rfl (km_c rfl (km_c rfl (km_c rfl (km_c rfl (km_c rfl (km_c rfl (km_c rfl (km_c rfl (km_c rfl (km_c rfl (km_c rfl (km_c rfl (km_c rfl (km_c rfl (km_c rfl (km_c rfl (km_c rfl (km_c rfl (km_c rfl (km_c rfl (km_c rfl (km_c rfl (km_c rfl (km_c rfl (km_c rfl (km_c rfl (km_n))))))))))))))))))))))))))))))))))))))))))))))) (by decide) (by decide) (fun _ => rfl) (fun _ => rfl) rfl (fun kk uu H locs hu hP hD hS => ?_)
  have hP : va_P D classes (LWd cI cZ cJ a (va_up (va_up (va_up x 2 uu.1) 3 uu.2.1) 4 uu.2.2) f bm y yl g ao o) H := hP
  have hD : va_D A (LWd cI cZ cJ a (va_up (va_up (va_up x 2 uu.1) 3 uu.2.1) 4 uu.2.2) f bm y yl g ao o) := hD
  refine lv_istore (lv' := [(5, .int kk), (0, .ref b), (1, .ref (a 0)), (2, .ref (bm 0)), (3, .ref ao), (4, .int (nI (5 * k)))]) hx hb d_Law_law_142 hl (by decide) rfl (fun ls hl => ?_)
  refine lv_aload_n hx hb d_Law_law_144 rfl (lv_at hl 3 rfl) ?_
  refine lv_aload_n hx hb d_Law_law_145 rfl (lv_at hl 1 rfl) ?_
  refine lv_iload hx hb d_Law_law_146 (lv_at hl 5 rfl) ?_
  refine lv_iconst (v := nI 1) hx hb d_Law_law_148 (by decide) ?_
  refine nn_iadd hx hb d_Law_law_149 ?_
  refine nn_sld hx hb hX hbl hbA hS (j := (5 * k) + 1) (by omega) (by omega) d_Law_law_150 ?_
  refine lv_aload_n hx hb d_Law_law_151 rfl (lv_at hl 1 rfl) ?_
  refine lv_iload hx hb d_Law_law_152 (lv_at hl 5 rfl) ?_
  refine lv_iconst (v := nI 2) hx hb d_Law_law_154 (by decide) ?_
  refine nn_iadd hx hb d_Law_law_155 ?_
  refine nn_sld hx hb hX hbl hbA hS (j := (5 * k) + 2) (by omega) (by omega) d_Law_law_156 ?_
  refine lv_aload_n hx hb d_Law_law_157 rfl (lv_at hl 1 rfl) ?_
  refine lv_iload hx hb d_Law_law_158 (lv_at hl 5 rfl) ?_
  refine lv_iconst (v := nI 3) hx hb d_Law_law_160 (by decide) ?_
  refine nn_iadd hx hb d_Law_law_161 ?_
  refine nn_sld hx hb hX hbl hbA hS (j := (5 * k) + 3) (by omega) (by omega) d_Law_law_162 ?_
  refine ke_v (S := Int32 × (Nat → Int32) × (Nat → Int32) × (Nat → Int32)) (fun vv9 => (LWd cI cZ cJ a (va_up (va_up (va_up x 2 uu.1) 3 uu.2.1) 4 uu.2.2) f bm (va_up (va_up (va_up y 1 vv9.2.1) 2 vv9.2.2.1) 3 vv9.2.2.2) yl (va_up g 0 vv9.1) ao o)) (kr_V (As := [.int (xs ((5 * k) + 1)), .int (xs ((5 * k) + 2)), .int (xs ((5 * k) + 3))]) (b := (bm 0)) (rest := []) (C := R_Model) hx hb hml hown hZ (c_mCapacity l zh D cI cZ cJ (bm 0) (bm 1) (bm 2) (bm 3) (bm 4) (bm 5) (bm 6) (bm 7) (bm 8) (bm 9) (bm 10) (bm 11) (bm 12) (bm 13) (bm 14) (bm 15) (bm 16) (bm 17) (bm 18) (bm 19) (bm 20) (bm 21) _ (g 0) (g 1) (g 2) (g 3) (g 4) (g 5) (g 6) (g 7) (g 8) (g 9) (y 1) (y 2) (y 3) (xs ((5 * k) + 1)) (xs ((5 * k) + 2)) (xs ((5 * k) + 3))) (s_Law_81_Model_capacity zh hZ) (wd zh hZ 702 q_702 rfl) (wd zh hZ 703 q_703 rfl) ⟨rfl, rfl, by decide, by decide⟩ (va_recv hK hP (ci := 5) rfl (q0 := 28) rfl) (hP.sub [28, 29, 30, 31] rfl) hK (hD.sub [28, 29, 30, 31] (by decide) rfl) rfl hl.1 rfl (Nat.le_of_ble_eq_true rfl) d_Law_law_163 (by show 51 + k + 1 ≤ 1081; omega) (by show 561 + 6 * k + 6 ≤ 8789; omega)) hP hD hS hA 51 [28, 29, 30, 31] [0, 1, 2, 3, 4, 5, 6, 7, 8, 9, 10, 11, 12, 13, 14, 15, 16, 17, 18, 19, 20, 21, 22, 23, 24, 25, 26, 27, 32, 33, 34, 35, 36, 37, 38, 39, 40, 41, 42, 43, 44, 45, 46, 47, 48, 49, 50] rfl (fun _ => rfl) (fun _ => km_c rfl (km_c rfl (km_c rfl (km_c rfl (km_c rfl (km_c rfl (km_c rfl (km_c rfl (km_c rfl (km_c rfl (km_c rfl (km_c rfl (km_c rfl (km_c rfl (km_c rfl (km_c rfl (km_c rfl (km_c rfl (km_c rfl (km_c rfl (km_c rfl (km_c rfl (km_c rfl (km_c rfl (km_c rfl (km_c rfl (km_c rfl (km_c rfl (km_c rfl (km_c rfl (km_c rfl (km_c rfl (km_c rfl (km_c rfl (km_c rfl (km_c rfl (km_c rfl (km_c rfl (km_c rfl (km_c rfl (km_c rfl (km_c rfl (km_c rfl (km_c rfl (km_c rfl (km_c rfl (km_c rfl (km_n)))))))))))))))))))))))))))))))))))))))))))))))) (by decide) (by decide) (fun _ => rfl) (fun _ => rfl) rfl (fun vv H locs hv hP hD hS => ?_)
  have hP : va_P D classes (LWd cI cZ cJ a (va_up (va_up (va_up x 2 uu.1) 3 uu.2.1) 4 uu.2.2) f bm (va_up (va_up (va_up y 1 vv.2.1) 2 vv.2.2.1) 3 vv.2.2.2) yl (va_up g 0 vv.1) ao o) H := hP
  have hD : va_D A (LWd cI cZ cJ a (va_up (va_up (va_up x 2 uu.1) 3 uu.2.1) 4 uu.2.2) f bm (va_up (va_up (va_up y 1 vv.2.1) 2 vv.2.2.1) 3 vv.2.2.2) yl (va_up g 0 vv.1) ao o) := hD
  refine lv_aload_n hx hb d_Law_law_166 rfl (lv_at hl 3 rfl) ?_
  refine ke_i (S := Unit) (fun vv9 => (LWd cI cZ cJ a (va_up (va_up (va_up x 2 uu.1) 3 uu.2.1) 4 uu.2.2) f bm (va_up (va_up (va_up y 1 vv.2.1) 2 vv.2.2.1) 3 vv.2.2.2) yl (va_up g 0 vv.1) ao o)) (kr_V (As := []) (b := (bm 0)) (rest := []) (C := R_Model) hx hb hml hown hZ (c_mThrown l zh D cI cZ cJ (bm 0) (bm 1) (bm 2) (bm 3) (bm 4) (bm 5) (bm 6) (bm 7) (bm 8) (bm 9) (bm 10) (bm 11) (bm 12) (bm 13) (bm 14) (bm 15) (bm 16) (bm 17) (bm 18) (bm 19) (bm 20) (bm 21) _ ((va_up g 0 vv.1) 0) ((va_up g 0 vv.1) 1) ((va_up g 0 vv.1) 2) ((va_up g 0 vv.1) 3) ((va_up g 0 vv.1) 4) ((va_up g 0 vv.1) 5) ((va_up g 0 vv.1) 6) ((va_up g 0 vv.1) 7) ((va_up g 0 vv.1) 8) ((va_up g 0 vv.1) 9)) (s_Law_82_Model_thrown zh hZ) (wd zh hZ 698 q_698 rfl) (wd zh hZ 699 q_699 rfl) ⟨rfl, rfl, by decide, by decide⟩ (va_recv hK hP (ci := 5) rfl (q0 := 28) rfl) (hP.sub [28] rfl) hK (hD.sub [28] (by decide) rfl) rfl hl.1 rfl (Nat.le_of_ble_eq_true rfl) d_Law_law_167 (by show 51 + k + 1 ≤ 1081; omega) (by show 561 + 6 * k + 6 ≤ 8789; omega)) hP hD hS hA 51 [28] [0, 1, 2, 3, 4, 5, 6, 7, 8, 9, 10, 11, 12, 13, 14, 15, 16, 17, 18, 19, 20, 21, 22, 23, 24, 25, 26, 27, 29, 30, 31, 32, 33, 34, 35, 36, 37, 38, 39, 40, 41, 42, 43, 44, 45, 46, 47, 48, 49, 50] rfl (fun _ => rfl) (fun _ => km_c rfl (km_c rfl (km_c rfl (km_c rfl (km_c rfl (km_c rfl (km_c rfl (km_c rfl (km_c rfl (km_c rfl (km_c rfl (km_c rfl (km_c rfl (km_c rfl (km_c rfl (km_c rfl (km_c rfl (km_c rfl (km_c rfl (km_c rfl (km_c rfl (km_c rfl (km_c rfl (km_c rfl (km_c rfl (km_c rfl (km_c rfl (km_c rfl (km_c rfl (km_c rfl (km_c rfl (km_c rfl (km_c rfl (km_c rfl (km_c rfl (km_c rfl (km_c rfl (km_c rfl (km_c rfl (km_c rfl (km_c rfl (km_c rfl (km_c rfl (km_c rfl (km_c rfl (km_c rfl (km_c rfl (km_c rfl (km_c rfl (km_c rfl (km_n))))))))))))))))))))))))))))))))))))))))))))))))))) (by decide) (by decide) (fun _ => rfl) (fun _ => rfl) rfl (fun tt ww H locs ht hP hD hS => ?_)
  have hP : va_P D classes (LWd cI cZ cJ a (va_up (va_up (va_up x 2 uu.1) 3 uu.2.1) 4 uu.2.2) f bm (va_up (va_up (va_up y 1 vv.2.1) 2 vv.2.2.1) 3 vv.2.2.2) yl (va_up g 0 vv.1) ao o) H := hP
  have hD : va_D A (LWd cI cZ cJ a (va_up (va_up (va_up x 2 uu.1) 3 uu.2.1) 4 uu.2.2) f bm (va_up (va_up (va_up y 1 vv.2.1) 2 vv.2.2.1) 3 vv.2.2.2) yl (va_up g 0 vv.1) ao o) := hD
  obtain ⟨eK, R1⟩ := L_capacity R (xs ((5 * k) + 1)) (xs ((5 * k) + 2)) (xs ((5 * k) + 3)) hu hv
  refine lv_iload hx hb d_Law_law_170 (lv_at hl 0 rfl) ?_
  refine lv_icmp_eq (tgt := 177) hx hb d_Law_law_172 (by decide) (fun _ => ?_) (fun h => absurd (ht.trans eK) h)
  refine lv_goto (tgt := 1085) hx hb d_Law_law_177 (by decide) ?_
  refine lv_iinc (k := 5) (v := nI (5 * k + 5)) (lv' := [(4, .int (nI (5 * k + 5))), (5, .int kk), (0, .ref b), (1, .ref (a 0)), (2, .ref (bm 0)), (3, .ref ao)]) hx hb d_Law_law_1085 hl rfl (by rw [show Int32.ofInt 5 = nI 5 from by decide, nI_add]) (by decide) rfl (fun ls hl => ?_)
  refine lv_goto (tgt := 23) hx hb d_Law_law_1088 (by decide) ?_
  refine W.widen (k := 51 + (k + 1)) (n := 561 + 6 * (k + 1)) (by omega) (by omega) ?_
  exact ih (k + 1) _ _ _ _ _ _ _ _ _ (by omega) R1 (lv_sub hl [2, 3, 4, 5, 0] rfl) hP hD hS
set_option maxHeartbeats 8000000 in
set_option maxRecDepth 100000 in
theorem lc_1 {p : Program} {e : Env} {s : State} {m : MethodId} {below : List Frame} {meth : Method} {c : Code} (l : Launch) (hfl : l.flags = pinnedFlags ++ [noTraceFlag]) {b L : Nat} {xs : Nat → Int32} (hL : L ≤ 2560) (hx : p.tables.exec = Jvm.exec) (hb : c.code = code) (hr : meth.sig.returnType = ret) (hml : c.maxLocals = 7) (hown : s.vm.findClass R_Law = some m.cls) (zh : ∀ w ∈ lw_tbl, w.before #[Value.ref b] s = true) (hX : va_X b L xs s s.heap) (hbl : b < s.heap.size) (hlocks : meth.locks = false) {D : va_G} {cI cZ cJ : ClassId} (hK : va_K D classes (wK cI cZ cJ) s) {aT : Nat} {cT : Cell} (hT0 : s.heap[aT]? = some cT) (hTz : tz_S s aT cT) (hN : xn_S s) (a bm : Nat → Nat) (ao : Nat) {r k : Nat} {ls : Array Slot} {H : Heap} {locs : List Loc} {x : Nat → Nat → Int32} {f : Nat → Int32} {y : Nat → Nat → Int32} {yl : Nat → Nat → Int64} {g : Nat → Int32} {o : Nat → Int64} (ih : ∀ (k : Nat) (ls : Array Slot) (H : Heap) (locs : List Loc) (x : Nat → Nat → Int32) (f : Nat → Int32) (y : Nat → Nat → Int32) (yl : Nat → Nat → Int64) (g : Nat → Int32) (o : Nat → Int64), k + r = 512 → Rel x f y yl g → lv_has ls 7 [(0, .ref b), (1, .ref (a 0)), (2, .ref (bm 0)), (3, .ref ao), (4, .int (nI (5 * k)))] → va_P D classes (LWd cI cZ cJ a x f bm y yl g ao o) H → va_D (fun q => s.heap.size ≤ q) (LWd cI cZ cJ a x f bm y yl g ao o) → va_S (fun q => s.heap.size ≤ q) s.heap H locs → W p l e room_1 s m #[Value.ref b] below meth c H locs (51 + k) (561 + 6 * k) (lw_Z below #[Value.ref b] s) (F0 m 23 ls [])) (hk : k + (r + 1) = 512) (hi : 5 * k + 5 ≤ L) (R : Rel x f y yl g) (hl : lv_has ls 7 [(0, .ref b), (1, .ref (a 0)), (2, .ref (bm 0)), (3, .ref ao), (4, .int (nI (5 * k)))]) (hP : va_P D classes (LWd cI cZ cJ a x f bm y yl g ao o) H) (hD : va_D (fun q => s.heap.size ≤ q) (LWd cI cZ cJ a x f bm y yl g ao o)) (hS : va_S (fun q => s.heap.size ≤ q) s.heap H locs) : W p l e room_1 s m #[Value.ref b] below meth c H locs (51 + k) (561 + 6 * k) (lw_Z below #[Value.ref b] s) (F0 m 180 ls []) := by
  have hZ : s.WarmedH s.vm := State.WarmedH.refl s
  have haT : aT < s.heap.size := (Array.getElem?_eq_some_iff.mp hT0).1
  generalize hAe : (fun q : Nat => s.heap.size ≤ q) = A at hD hS ih
  have hA : ∀ q : Nat, s.heap.size ≤ q → A q := fun q h => by rw [← hAe]; exact h
  have haA : ¬ A aT := by rw [← hAe]; exact Nat.not_le.mpr haT
  have hbA : ¬ A b := by rw [← hAe]; exact Nat.not_le.mpr hbl
  refine lv_aload_n hx hb d_Law_law_180 rfl (lv_at hl 1 rfl) ?_
  refine lv_aload_n hx hb d_Law_law_181 rfl (lv_at hl 0 rfl) ?_
  refine lv_iload hx hb d_Law_law_182 (lv_at hl 4 rfl) ?_
  refine lv_iconst (v := nI 1) hx hb d_Law_law_184 (by decide) ?_
  refine nn_iadd hx hb d_Law_law_185 ?_
  refine nn_sld hx hb hX hbl hbA hS (j := (5 * k) + 1) (by omega) (by omega) d_Law_law_186 ?_
  refine lv_aload_n hx hb d_Law_law_187 rfl (lv_at hl 0 rfl) ?_
  refine lv_iload hx hb d_Law_law_188 (lv_at hl 4 rfl) ?_
  refine lv_iconst (v := nI 2) hx hb d_Law_law_190 (by decide) ?_
  refine nn_iadd hx hb d_Law_law_191 ?_
  refine nn_sld hx hb hX hbl hbA hS (j := (5 * k) + 2) (by omega) (by omega) d_Law_law_192 ?_
  refine lv_aload_n hx hb d_Law_law_193 rfl (lv_at hl 0 rfl) ?_
  refine lv_iload hx hb d_Law_law_194 (lv_at hl 4 rfl) ?_
  refine lv_iconst (v := nI 3) hx hb d_Law_law_196 (by decide) ?_
  refine nn_iadd hx hb d_Law_law_197 ?_
  refine nn_sld hx hb hX hbl hbA hS (j := (5 * k) + 3) (by omega) (by omega) d_Law_law_198 ?_
  refine lv_aload_n hx hb d_Law_law_199 rfl (lv_at hl 0 rfl) ?_
  refine lv_iload hx hb d_Law_law_200 (lv_at hl 4 rfl) ?_
  refine lv_iconst (v := nI 4) hx hb d_Law_law_202 (by decide) ?_
  refine nn_iadd hx hb d_Law_law_203 ?_
  refine nn_sld hx hb hX hbl hbA hS (j := (5 * k) + 4) (by omega) (by omega) d_Law_law_204 ?_
  have hTc : H[aT]? = some cT := by rw [hS.2.1 aT haT haA]; exact hT0
  refine kl_i (S := (Nat → Int32) × (Nat → Int32) × (Nat → Int32)) (fun uu => (LWd cI cZ cJ a (va_up (va_up (va_up x 5 uu.1) 6 uu.2.1) 7 uu.2.2) f bm y yl g ao o)) (kx_H (As := [.ref (a 0), .int (xs ((5 * k) + 1)), .int (xs ((5 * k) + 2)), .int (xs ((5 * k) + 3)), .int (xs ((5 * k) + 4))]) (rest := []) hTc hx hb hml hown hZ (c_hEdge l zh D cI cZ cJ hfl aT cT hTz hN (a 0) (a 1) (a 11) (a 14) (a 20) (a 27) (a 2) (a 3) (a 4) (a 5) (a 6) (a 7) (a 8) (a 9) (a 10) _ (f 0) (f 1) (f 2) (f 3) (f 4) (f 5) (f 6) (x 5) (x 6) (x 7) (xs ((5 * k) + 1)) (xs ((5 * k) + 2)) (xs ((5 * k) + 3)) (xs ((5 * k) + 4))) (s_Law_85_Law_edge zh hZ) (wd zh hZ 347 q_347 rfl) ⟨rfl, rfl, by decide, by decide⟩ (hP.sub [0, 1, 5, 6, 7] rfl) hK (hD.sub [0, 1, 5, 6, 7] (by decide) rfl) rfl hl.1 rfl (Nat.le_of_ble_eq_true rfl) d_Law_law_205 (by show 51 + k + 1 ≤ 1081; omega) (by show 561 + 6 * k + 6 ≤ 8789; omega)) hP hD hS hA 51 [0, 1, 5, 6, 7] [2, 3, 4, 8, 9, 10, 11, 12, 13, 14, 15, 16, 17, 18, 19, 20, 21, 22, 23, 24, 25, 26, 27, 28, 29, 30, 31, 32, 33, 34, 35, 36, 37, 38, 39, 40, 41, 42, 43, 44, 45, 46, 47, 48, 49, 50] rfl (fun _ => rfl) (fun _ => km_c rfl (km_c rfl (km_c rfl (km_c rfl (km_c rfl (km_c rfl (km_c rfl (km_c rfl (km_c rfl (km_c rfl (km_c rfl (km_c rfl (km_c rfl (km_c rfl (km_c rfl (km_c rfl (km_c rfl (km_c rfl (km_c rfl (km_c rfl (km_c rfl (km_c rfl (km_c rfl (km_c rfl (km_c rfl (km_c rfl (km_c rfl (km_c rfl (km_c rfl (km_c rfl (km_c rfl (km_c rfl (km_c rfl (km_c rfl (km_c rfl (km_c rfl (km_c rfl (km_c rfl (km_c rfl (km_c rfl (km_c rfl (km_c rfl (km_c rfl (km_c rfl (km_c rfl (km_c rfl (km_n))))))))))))))))))))))))))))))))))))))))))))))) (by decide) (by decide) (fun _ => rfl) (fun _ => rfl) rfl (fun kk uu H locs hu hP hD hS => ?_)
  have hP : va_P D classes (LWd cI cZ cJ a (va_up (va_up (va_up x 5 uu.1) 6 uu.2.1) 7 uu.2.2) f bm y yl g ao o) H := hP
  have hD : va_D A (LWd cI cZ cJ a (va_up (va_up (va_up x 5 uu.1) 6 uu.2.1) 7 uu.2.2) f bm y yl g ao o) := hD
  refine lv_istore (lv' := [(5, .int kk), (0, .ref b), (1, .ref (a 0)), (2, .ref (bm 0)), (3, .ref ao), (4, .int (nI (5 * k)))]) hx hb d_Law_law_208 hl (by decide) rfl (fun ls hl => ?_)
  refine lv_aload_n hx hb d_Law_law_210 rfl (lv_at hl 3 rfl) ?_
  refine lv_aload_n hx hb d_Law_law_211 rfl (lv_at hl 1 rfl) ?_
  refine lv_iload hx hb d_Law_law_212 (lv_at hl 5 rfl) ?_
  refine lv_iconst (v := nI 1) hx hb d_Law_law_214 (by decide) ?_
  refine nn_iadd hx hb d_Law_law_215 ?_
  refine nn_sld hx hb hX hbl hbA hS (j := (5 * k) + 1) (by omega) (by omega) d_Law_law_216 ?_
  refine lv_aload_n hx hb d_Law_law_217 rfl (lv_at hl 1 rfl) ?_
  refine lv_iload hx hb d_Law_law_218 (lv_at hl 5 rfl) ?_
  refine lv_iconst (v := nI 2) hx hb d_Law_law_220 (by decide) ?_
  refine nn_iadd hx hb d_Law_law_221 ?_
  refine nn_sld hx hb hX hbl hbA hS (j := (5 * k) + 2) (by omega) (by omega) d_Law_law_222 ?_
  refine lv_aload_n hx hb d_Law_law_223 rfl (lv_at hl 1 rfl) ?_
  refine lv_iload hx hb d_Law_law_224 (lv_at hl 5 rfl) ?_
  refine lv_iconst (v := nI 3) hx hb d_Law_law_226 (by decide) ?_
  refine nn_iadd hx hb d_Law_law_227 ?_
  refine nn_sld hx hb hX hbl hbA hS (j := (5 * k) + 3) (by omega) (by omega) d_Law_law_228 ?_
  refine lv_aload_n hx hb d_Law_law_229 rfl (lv_at hl 1 rfl) ?_
  refine lv_iload hx hb d_Law_law_230 (lv_at hl 5 rfl) ?_
  refine lv_iconst (v := nI 4) hx hb d_Law_law_232 (by decide) ?_
  refine nn_iadd hx hb d_Law_law_233 ?_
  refine nn_sld hx hb hX hbl hbA hS (j := (5 * k) + 4) (by omega) (by omega) d_Law_law_234 ?_
  refine ke_v (S := Int32 × (Nat → Int32) × (Nat → Int32) × (Nat → Int32)) (fun vv9 => (LWd cI cZ cJ a (va_up (va_up (va_up x 5 uu.1) 6 uu.2.1) 7 uu.2.2) f bm (va_up (va_up (va_up y 4 vv9.2.1) 5 vv9.2.2.1) 6 vv9.2.2.2) yl (va_up g 0 vv9.1) ao o)) (kr_V (As := [.int (xs ((5 * k) + 1)), .int (xs ((5 * k) + 2)), .int (xs ((5 * k) + 3)), .int (xs ((5 * k) + 4))]) (b := (bm 0)) (rest := []) (C := R_Model) hx hb hml hown hZ (c_mEdge l zh D cI cZ cJ (bm 0) (bm 1) (bm 2) (bm 3) (bm 4) (bm 5) (bm 6) (bm 7) (bm 8) (bm 9) (bm 10) (bm 11) (bm 12) (bm 13) (bm 14) (bm 15) (bm 16) (bm 17) (bm 18) (bm 19) (bm 20) (bm 21) _ (g 0) (g 1) (g 2) (g 3) (g 4) (g 5) (g 6) (g 7) (g 8) (g 9) (y 4) (y 5) (y 6) (xs ((5 * k) + 1)) (xs ((5 * k) + 2)) (xs ((5 * k) + 3)) (xs ((5 * k) + 4))) (s_Law_88_Model_edge zh hZ) (wd zh hZ 716 q_716 rfl) (wd zh hZ 717 q_717 rfl) ⟨rfl, rfl, by decide, by decide⟩ (va_recv hK hP (ci := 5) rfl (q0 := 28) rfl) (hP.sub [28, 32, 33, 34] rfl) hK (hD.sub [28, 32, 33, 34] (by decide) rfl) rfl hl.1 rfl (Nat.le_of_ble_eq_true rfl) d_Law_law_235 (by show 51 + k + 1 ≤ 1081; omega) (by show 561 + 6 * k + 6 ≤ 8789; omega)) hP hD hS hA 51 [28, 32, 33, 34] [0, 1, 2, 3, 4, 5, 6, 7, 8, 9, 10, 11, 12, 13, 14, 15, 16, 17, 18, 19, 20, 21, 22, 23, 24, 25, 26, 27, 29, 30, 31, 35, 36, 37, 38, 39, 40, 41, 42, 43, 44, 45, 46, 47, 48, 49, 50] rfl (fun _ => rfl) (fun _ => km_c rfl (km_c rfl (km_c rfl (km_c rfl (km_c rfl (km_c rfl (km_c rfl (km_c rfl (km_c rfl (km_c rfl (km_c rfl (km_c rfl (km_c rfl (km_c rfl (km_c rfl (km_c rfl (km_c rfl (km_c rfl (km_c rfl (km_c rfl (km_c rfl (km_c rfl (km_c rfl (km_c rfl (km_c rfl (km_c rfl (km_c rfl (km_c rfl (km_c rfl (km_c rfl (km_c rfl (km_c rfl (km_c rfl (km_c rfl (km_c rfl (km_c rfl (km_c rfl (km_c rfl (km_c rfl (km_c rfl (km_c rfl (km_c rfl (km_c rfl (km_c rfl (km_c rfl (km_c rfl (km_c rfl (km_n)))))))))))))))))))))))))))))))))))))))))))))))) (by decide) (by decide) (fun _ => rfl) (fun _ => rfl) rfl (fun vv H locs hv hP hD hS => ?_)
  have hP : va_P D classes (LWd cI cZ cJ a (va_up (va_up (va_up x 5 uu.1) 6 uu.2.1) 7 uu.2.2) f bm (va_up (va_up (va_up y 4 vv.2.1) 5 vv.2.2.1) 6 vv.2.2.2) yl (va_up g 0 vv.1) ao o) H := hP
  have hD : va_D A (LWd cI cZ cJ a (va_up (va_up (va_up x 5 uu.1) 6 uu.2.1) 7 uu.2.2) f bm (va_up (va_up (va_up y 4 vv.2.1) 5 vv.2.2.1) 6 vv.2.2.2) yl (va_up g 0 vv.1) ao o) := hD
  refine lv_aload_n hx hb d_Law_law_238 rfl (lv_at hl 3 rfl) ?_
  refine ke_i (S := Unit) (fun vv9 => (LWd cI cZ cJ a (va_up (va_up (va_up x 5 uu.1) 6 uu.2.1) 7 uu.2.2) f bm (va_up (va_up (va_up y 4 vv.2.1) 5 vv.2.2.1) 6 vv.2.2.2) yl (va_up g 0 vv.1) ao o)) (kr_V (As := []) (b := (bm 0)) (rest := []) (C := R_Model) hx hb hml hown hZ (c_mThrown l zh D cI cZ cJ (bm 0) (bm 1) (bm 2) (bm 3) (bm 4) (bm 5) (bm 6) (bm 7) (bm 8) (bm 9) (bm 10) (bm 11) (bm 12) (bm 13) (bm 14) (bm 15) (bm 16) (bm 17) (bm 18) (bm 19) (bm 20) (bm 21) _ ((va_up g 0 vv.1) 0) ((va_up g 0 vv.1) 1) ((va_up g 0 vv.1) 2) ((va_up g 0 vv.1) 3) ((va_up g 0 vv.1) 4) ((va_up g 0 vv.1) 5) ((va_up g 0 vv.1) 6) ((va_up g 0 vv.1) 7) ((va_up g 0 vv.1) 8) ((va_up g 0 vv.1) 9)) (s_Law_82_Model_thrown zh hZ) (wd zh hZ 698 q_698 rfl) (wd zh hZ 699 q_699 rfl) ⟨rfl, rfl, by decide, by decide⟩ (va_recv hK hP (ci := 5) rfl (q0 := 28) rfl) (hP.sub [28] rfl) hK (hD.sub [28] (by decide) rfl) rfl hl.1 rfl (Nat.le_of_ble_eq_true rfl) d_Law_law_239 (by show 51 + k + 1 ≤ 1081; omega) (by show 561 + 6 * k + 6 ≤ 8789; omega)) hP hD hS hA 51 [28] [0, 1, 2, 3, 4, 5, 6, 7, 8, 9, 10, 11, 12, 13, 14, 15, 16, 17, 18, 19, 20, 21, 22, 23, 24, 25, 26, 27, 29, 30, 31, 32, 33, 34, 35, 36, 37, 38, 39, 40, 41, 42, 43, 44, 45, 46, 47, 48, 49, 50] rfl (fun _ => rfl) (fun _ => km_c rfl (km_c rfl (km_c rfl (km_c rfl (km_c rfl (km_c rfl (km_c rfl (km_c rfl (km_c rfl (km_c rfl (km_c rfl (km_c rfl (km_c rfl (km_c rfl (km_c rfl (km_c rfl (km_c rfl (km_c rfl (km_c rfl (km_c rfl (km_c rfl (km_c rfl (km_c rfl (km_c rfl (km_c rfl (km_c rfl (km_c rfl (km_c rfl (km_c rfl (km_c rfl (km_c rfl (km_c rfl (km_c rfl (km_c rfl (km_c rfl (km_c rfl (km_c rfl (km_c rfl (km_c rfl (km_c rfl (km_c rfl (km_c rfl (km_c rfl (km_c rfl (km_c rfl (km_c rfl (km_c rfl (km_c rfl (km_c rfl (km_c rfl (km_n))))))))))))))))))))))))))))))))))))))))))))))))))) (by decide) (by decide) (fun _ => rfl) (fun _ => rfl) rfl (fun tt ww H locs ht hP hD hS => ?_)
  have hP : va_P D classes (LWd cI cZ cJ a (va_up (va_up (va_up x 5 uu.1) 6 uu.2.1) 7 uu.2.2) f bm (va_up (va_up (va_up y 4 vv.2.1) 5 vv.2.2.1) 6 vv.2.2.2) yl (va_up g 0 vv.1) ao o) H := hP
  have hD : va_D A (LWd cI cZ cJ a (va_up (va_up (va_up x 5 uu.1) 6 uu.2.1) 7 uu.2.2) f bm (va_up (va_up (va_up y 4 vv.2.1) 5 vv.2.2.1) 6 vv.2.2.2) yl (va_up g 0 vv.1) ao o) := hD
  obtain ⟨eK, R1⟩ := L_edge R (xs ((5 * k) + 1)) (xs ((5 * k) + 2)) (xs ((5 * k) + 3)) (xs ((5 * k) + 4)) hu hv
  refine lv_iload hx hb d_Law_law_242 (lv_at hl 0 rfl) ?_
  refine lv_icmp_eq (tgt := 249) hx hb d_Law_law_244 (by decide) (fun _ => ?_) (fun h => absurd (ht.trans eK) h)
  refine lv_goto (tgt := 1085) hx hb d_Law_law_249 (by decide) ?_
  refine lv_iinc (k := 5) (v := nI (5 * k + 5)) (lv' := [(4, .int (nI (5 * k + 5))), (5, .int kk), (0, .ref b), (1, .ref (a 0)), (2, .ref (bm 0)), (3, .ref ao)]) hx hb d_Law_law_1085 hl rfl (by rw [show Int32.ofInt 5 = nI 5 from by decide, nI_add]) (by decide) rfl (fun ls hl => ?_)
  refine lv_goto (tgt := 23) hx hb d_Law_law_1088 (by decide) ?_
  refine W.widen (k := 51 + (k + 1)) (n := 561 + 6 * (k + 1)) (by omega) (by omega) ?_
  exact ih (k + 1) _ _ _ _ _ _ _ _ _ (by omega) R1 (lv_sub hl [2, 3, 4, 5, 0] rfl) hP hD hS
set_option maxHeartbeats 8000000 in
set_option maxRecDepth 100000 in
theorem lc_2 {p : Program} {e : Env} {s : State} {m : MethodId} {below : List Frame} {meth : Method} {c : Code} (l : Launch) (hfl : l.flags = pinnedFlags ++ [noTraceFlag]) {b L : Nat} {xs : Nat → Int32} (hL : L ≤ 2560) (hx : p.tables.exec = Jvm.exec) (hb : c.code = code) (hr : meth.sig.returnType = ret) (hml : c.maxLocals = 7) (hown : s.vm.findClass R_Law = some m.cls) (zh : ∀ w ∈ lw_tbl, w.before #[Value.ref b] s = true) (hX : va_X b L xs s s.heap) (hbl : b < s.heap.size) (hlocks : meth.locks = false) {D : va_G} {cI cZ cJ : ClassId} (hK : va_K D classes (wK cI cZ cJ) s) {aT : Nat} {cT : Cell} (hT0 : s.heap[aT]? = some cT) (hTz : tz_S s aT cT) (hN : xn_S s) (a bm : Nat → Nat) (ao : Nat) {r k : Nat} {ls : Array Slot} {H : Heap} {locs : List Loc} {x : Nat → Nat → Int32} {f : Nat → Int32} {y : Nat → Nat → Int32} {yl : Nat → Nat → Int64} {g : Nat → Int32} {o : Nat → Int64} (ih : ∀ (k : Nat) (ls : Array Slot) (H : Heap) (locs : List Loc) (x : Nat → Nat → Int32) (f : Nat → Int32) (y : Nat → Nat → Int32) (yl : Nat → Nat → Int64) (g : Nat → Int32) (o : Nat → Int64), k + r = 512 → Rel x f y yl g → lv_has ls 7 [(0, .ref b), (1, .ref (a 0)), (2, .ref (bm 0)), (3, .ref ao), (4, .int (nI (5 * k)))] → va_P D classes (LWd cI cZ cJ a x f bm y yl g ao o) H → va_D (fun q => s.heap.size ≤ q) (LWd cI cZ cJ a x f bm y yl g ao o) → va_S (fun q => s.heap.size ≤ q) s.heap H locs → W p l e room_1 s m #[Value.ref b] below meth c H locs (51 + k) (561 + 6 * k) (lw_Z below #[Value.ref b] s) (F0 m 23 ls [])) (hk : k + (r + 1) = 512) (hi : 5 * k + 5 ≤ L) (R : Rel x f y yl g) (hl : lv_has ls 7 [(0, .ref b), (1, .ref (a 0)), (2, .ref (bm 0)), (3, .ref ao), (4, .int (nI (5 * k)))]) (hP : va_P D classes (LWd cI cZ cJ a x f bm y yl g ao o) H) (hD : va_D (fun q => s.heap.size ≤ q) (LWd cI cZ cJ a x f bm y yl g ao o)) (hS : va_S (fun q => s.heap.size ≤ q) s.heap H locs) : W p l e room_1 s m #[Value.ref b] below meth c H locs (51 + k) (561 + 6 * k) (lw_Z below #[Value.ref b] s) (F0 m 252 ls []) := by
  have hZ : s.WarmedH s.vm := State.WarmedH.refl s
  have haT : aT < s.heap.size := (Array.getElem?_eq_some_iff.mp hT0).1
  generalize hAe : (fun q : Nat => s.heap.size ≤ q) = A at hD hS ih
  have hA : ∀ q : Nat, s.heap.size ≤ q → A q := fun q h => by rw [← hAe]; exact h
  have haA : ¬ A aT := by rw [← hAe]; exact Nat.not_le.mpr haT
  have hbA : ¬ A b := by rw [← hAe]; exact Nat.not_le.mpr hbl
  refine lv_aload_n hx hb d_Law_law_252 rfl (lv_at hl 1 rfl) ?_
  refine lv_aload_n hx hb d_Law_law_253 rfl (lv_at hl 0 rfl) ?_
  refine lv_iload hx hb d_Law_law_254 (lv_at hl 4 rfl) ?_
  refine lv_iconst (v := nI 1) hx hb d_Law_law_256 (by decide) ?_
  refine nn_iadd hx hb d_Law_law_257 ?_
  refine nn_sld hx hb hX hbl hbA hS (j := (5 * k) + 1) (by omega) (by omega) d_Law_law_258 ?_
  refine lv_aload_n hx hb d_Law_law_259 rfl (lv_at hl 0 rfl) ?_
  refine lv_iload hx hb d_Law_law_260 (lv_at hl 4 rfl) ?_
  refine lv_iconst (v := nI 2) hx hb d_Law_law_262 (by decide) ?_
  refine nn_iadd hx hb d_Law_law_263 ?_
  refine nn_sld hx hb hX hbl hbA hS (j := (5 * k) + 2) (by omega) (by omega) d_Law_law_264 ?_
  have hTc : H[aT]? = some cT := by rw [hS.2.1 aT haT haA]; exact hT0
  refine kl_i (S := (Nat → Int32)) (fun uu => (LWd cI cZ cJ a (va_up x 8 uu) f bm y yl g ao o)) (kx_H (As := [.ref (a 0), .int (xs ((5 * k) + 1)), .int (xs ((5 * k) + 2))]) (rest := []) hTc hx hb hml hown hZ (c_hLimit l zh D cI cZ cJ hfl aT cT hTz hN (a 0) (a 1) (a 11) (a 14) (a 20) (a 27) (a 2) (a 3) (a 4) (a 5) (a 6) (a 7) (a 8) (a 9) (a 10) _ (f 0) (f 1) (f 2) (f 3) (f 4) (f 5) (f 6) (x 8) (xs ((5 * k) + 1)) (xs ((5 * k) + 2))) (s_Law_89_Law_limit zh hZ) (wd zh hZ 365 q_365 rfl) ⟨rfl, rfl, by decide, by decide⟩ (hP.sub [0, 1, 8] rfl) hK (hD.sub [0, 1, 8] (by decide) rfl) rfl hl.1 rfl (Nat.le_of_ble_eq_true rfl) d_Law_law_265 (by show 51 + k + 1 ≤ 1081; omega) (by show 561 + 6 * k + 6 ≤ 8789; omega)) hP hD hS hA 51 [0, 1, 8] [2, 3, 4, 5, 6, 7, 9, 10, 11, 12, 13, 14, 15, 16, 17, 18, 19, 20, 21, 22, 23, 24, 25, 26, 27, 28, 29, 30, 31, 32, 33, 34, 35, 36, 37, 38, 39, 40, 41, 42, 43, 44, 45, 46, 47, 48, 49, 50] rfl (fun _ => rfl) (fun _ => km_c rfl (km_c rfl (km_c rfl (km_c rfl (km_c rfl (km_c rfl (km_c rfl (km_c rfl (km_c rfl (km_c rfl (km_c rfl (km_c rfl (km_c rfl (km_c rfl (km_c rfl (km_c rfl (km_c rfl (km_c rfl (km_c rfl (km_c rfl (km_c rfl (km_c rfl (km_c rfl (km_c rfl (km_c rfl (km_c rfl (km_c rfl (km_c rfl (km_c rfl (km_c rfl (km_c rfl (km_c rfl (km_c rfl (km_c rfl (km_c rfl (km_c rfl (km_c rfl (km_c rfl (km_c rfl (km_c rfl (km_c rfl (km_c rfl (km_c rfl (km_c rfl (km_c rfl (km_c rfl (km_c rfl (km_c rfl (km_n))))))))))))))))))))))))))))))))))))))))))))))))) (by decide) (by decide) (fun _ => rfl) (fun _ => rfl) rfl (fun kk uu H locs hu hP hD hS => ?_)
  have hP : va_P D classes (LWd cI cZ cJ a (va_up x 8 uu) f bm y yl g ao o) H := hP
  have hD : va_D A (LWd cI cZ cJ a (va_up x 8 uu) f bm y yl g ao o) := hD
  refine lv_istore (lv' := [(5, .int kk), (0, .ref b), (1, .ref (a 0)), (2, .ref (bm 0)), (3, .ref ao), (4, .int (nI (5 * k)))]) hx hb d_Law_law_268 hl (by decide) rfl (fun ls hl => ?_)
  refine lv_aload_n hx hb d_Law_law_270 rfl (lv_at hl 3 rfl) ?_
  refine lv_aload_n hx hb d_Law_law_271 rfl (lv_at hl 1 rfl) ?_
  refine lv_iload hx hb d_Law_law_272 (lv_at hl 5 rfl) ?_
  refine lv_iconst (v := nI 1) hx hb d_Law_law_274 (by decide) ?_
  refine nn_iadd hx hb d_Law_law_275 ?_
  refine nn_sld hx hb hX hbl hbA hS (j := (5 * k) + 1) (by omega) (by omega) d_Law_law_276 ?_
  refine lv_aload_n hx hb d_Law_law_277 rfl (lv_at hl 1 rfl) ?_
  refine lv_iload hx hb d_Law_law_278 (lv_at hl 5 rfl) ?_
  refine lv_iconst (v := nI 2) hx hb d_Law_law_280 (by decide) ?_
  refine nn_iadd hx hb d_Law_law_281 ?_
  refine nn_sld hx hb hX hbl hbA hS (j := (5 * k) + 2) (by omega) (by omega) d_Law_law_282 ?_
  refine ke_v (S := Int32 × (Nat → Int32)) (fun vv9 => (LWd cI cZ cJ a (va_up x 8 uu) f bm (va_up y 7 vv9.2) yl (va_up g 0 vv9.1) ao o)) (kr_V (As := [.int (xs ((5 * k) + 1)), .int (xs ((5 * k) + 2))]) (b := (bm 0)) (rest := []) (C := R_Model) hx hb hml hown hZ (c_mLimit l zh D cI cZ cJ (bm 0) (bm 1) (bm 2) (bm 3) (bm 4) (bm 5) (bm 6) (bm 7) (bm 8) (bm 9) (bm 10) (bm 11) (bm 12) (bm 13) (bm 14) (bm 15) (bm 16) (bm 17) (bm 18) (bm 19) (bm 20) (bm 21) _ (g 0) (g 1) (g 2) (g 3) (g 4) (g 5) (g 6) (g 7) (g 8) (g 9) (y 7) (xs ((5 * k) + 1)) (xs ((5 * k) + 2))) (s_Law_92_Model_limit zh hZ) (wd zh hZ 723 q_723 rfl) (wd zh hZ 724 q_724 rfl) ⟨rfl, rfl, by decide, by decide⟩ (va_recv hK hP (ci := 5) rfl (q0 := 28) rfl) (hP.sub [28, 35] rfl) hK (hD.sub [28, 35] (by decide) rfl) rfl hl.1 rfl (Nat.le_of_ble_eq_true rfl) d_Law_law_283 (by show 51 + k + 1 ≤ 1081; omega) (by show 561 + 6 * k + 6 ≤ 8789; omega)) hP hD hS hA 51 [28, 35] [0, 1, 2, 3, 4, 5, 6, 7, 8, 9, 10, 11, 12, 13, 14, 15, 16, 17, 18, 19, 20, 21, 22, 23, 24, 25, 26, 27, 29, 30, 31, 32, 33, 34, 36, 37, 38, 39, 40, 41, 42, 43, 44, 45, 46, 47, 48, 49, 50] rfl (fun _ => rfl) (fun _ => km_c rfl (km_c rfl (km_c rfl (km_c rfl (km_c rfl (km_c rfl (km_c rfl (km_c rfl (km_c rfl (km_c rfl (km_c rfl (km_c rfl (km_c rfl (km_c rfl (km_c rfl (km_c rfl (km_c rfl (km_c rfl (km_c rfl (km_c rfl (km_c rfl (km_c rfl (km_c rfl (km_c rfl (km_c rfl (km_c rfl (km_c rfl (km_c rfl (km_c rfl (km_c rfl (km_c rfl (km_c rfl (km_c rfl (km_c rfl (km_c rfl (km_c rfl (km_c rfl (km_c rfl (km_c rfl (km_c rfl (km_c rfl (km_c rfl (km_c rfl (km_c rfl (km_c rfl (km_c rfl (km_c rfl (km_c rfl (km_c rfl (km_n)))))))))))))))))))))))))))))))))))))))))))))))))) (by decide) (by decide) (fun _ => rfl) (fun _ => rfl) rfl (fun vv H locs hv hP hD hS => ?_)
  have hP : va_P D classes (LWd cI cZ cJ a (va_up x 8 uu) f bm (va_up y 7 vv.2) yl (va_up g 0 vv.1) ao o) H := hP
  have hD : va_D A (LWd cI cZ cJ a (va_up x 8 uu) f bm (va_up y 7 vv.2) yl (va_up g 0 vv.1) ao o) := hD
  refine lv_aload_n hx hb d_Law_law_286 rfl (lv_at hl 3 rfl) ?_
  refine ke_i (S := Unit) (fun vv9 => (LWd cI cZ cJ a (va_up x 8 uu) f bm (va_up y 7 vv.2) yl (va_up g 0 vv.1) ao o)) (kr_V (As := []) (b := (bm 0)) (rest := []) (C := R_Model) hx hb hml hown hZ (c_mThrown l zh D cI cZ cJ (bm 0) (bm 1) (bm 2) (bm 3) (bm 4) (bm 5) (bm 6) (bm 7) (bm 8) (bm 9) (bm 10) (bm 11) (bm 12) (bm 13) (bm 14) (bm 15) (bm 16) (bm 17) (bm 18) (bm 19) (bm 20) (bm 21) _ ((va_up g 0 vv.1) 0) ((va_up g 0 vv.1) 1) ((va_up g 0 vv.1) 2) ((va_up g 0 vv.1) 3) ((va_up g 0 vv.1) 4) ((va_up g 0 vv.1) 5) ((va_up g 0 vv.1) 6) ((va_up g 0 vv.1) 7) ((va_up g 0 vv.1) 8) ((va_up g 0 vv.1) 9)) (s_Law_82_Model_thrown zh hZ) (wd zh hZ 698 q_698 rfl) (wd zh hZ 699 q_699 rfl) ⟨rfl, rfl, by decide, by decide⟩ (va_recv hK hP (ci := 5) rfl (q0 := 28) rfl) (hP.sub [28] rfl) hK (hD.sub [28] (by decide) rfl) rfl hl.1 rfl (Nat.le_of_ble_eq_true rfl) d_Law_law_287 (by show 51 + k + 1 ≤ 1081; omega) (by show 561 + 6 * k + 6 ≤ 8789; omega)) hP hD hS hA 51 [28] [0, 1, 2, 3, 4, 5, 6, 7, 8, 9, 10, 11, 12, 13, 14, 15, 16, 17, 18, 19, 20, 21, 22, 23, 24, 25, 26, 27, 29, 30, 31, 32, 33, 34, 35, 36, 37, 38, 39, 40, 41, 42, 43, 44, 45, 46, 47, 48, 49, 50] rfl (fun _ => rfl) (fun _ => km_c rfl (km_c rfl (km_c rfl (km_c rfl (km_c rfl (km_c rfl (km_c rfl (km_c rfl (km_c rfl (km_c rfl (km_c rfl (km_c rfl (km_c rfl (km_c rfl (km_c rfl (km_c rfl (km_c rfl (km_c rfl (km_c rfl (km_c rfl (km_c rfl (km_c rfl (km_c rfl (km_c rfl (km_c rfl (km_c rfl (km_c rfl (km_c rfl (km_c rfl (km_c rfl (km_c rfl (km_c rfl (km_c rfl (km_c rfl (km_c rfl (km_c rfl (km_c rfl (km_c rfl (km_c rfl (km_c rfl (km_c rfl (km_c rfl (km_c rfl (km_c rfl (km_c rfl (km_c rfl (km_c rfl (km_c rfl (km_c rfl (km_c rfl (km_n))))))))))))))))))))))))))))))))))))))))))))))))))) (by decide) (by decide) (fun _ => rfl) (fun _ => rfl) rfl (fun tt ww H locs ht hP hD hS => ?_)
  have hP : va_P D classes (LWd cI cZ cJ a (va_up x 8 uu) f bm (va_up y 7 vv.2) yl (va_up g 0 vv.1) ao o) H := hP
  have hD : va_D A (LWd cI cZ cJ a (va_up x 8 uu) f bm (va_up y 7 vv.2) yl (va_up g 0 vv.1) ao o) := hD
  obtain ⟨eK, R1⟩ := L_limit R (xs ((5 * k) + 1)) (xs ((5 * k) + 2)) hu hv
  refine lv_iload hx hb d_Law_law_290 (lv_at hl 0 rfl) ?_
  refine lv_icmp_eq (tgt := 297) hx hb d_Law_law_292 (by decide) (fun _ => ?_) (fun h => absurd (ht.trans eK) h)
  refine lv_goto (tgt := 1085) hx hb d_Law_law_297 (by decide) ?_
  refine lv_iinc (k := 5) (v := nI (5 * k + 5)) (lv' := [(4, .int (nI (5 * k + 5))), (5, .int kk), (0, .ref b), (1, .ref (a 0)), (2, .ref (bm 0)), (3, .ref ao)]) hx hb d_Law_law_1085 hl rfl (by rw [show Int32.ofInt 5 = nI 5 from by decide, nI_add]) (by decide) rfl (fun ls hl => ?_)
  refine lv_goto (tgt := 23) hx hb d_Law_law_1088 (by decide) ?_
  refine W.widen (k := 51 + (k + 1)) (n := 561 + 6 * (k + 1)) (by omega) (by omega) ?_
  exact ih (k + 1) _ _ _ _ _ _ _ _ _ (by omega) R1 (lv_sub hl [2, 3, 4, 5, 0] rfl) hP hD hS

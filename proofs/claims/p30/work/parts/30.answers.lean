def bvC (g : Nat → Nat → Int32) (s v w : Nat) : Int32 := if hbl g (nI s) (nI v) = 0 then (-1) else if nI w = 0 then g 6 (s * 6 + v) else if nI w = 1 then g 7 (s * 6 + v) else fcs g s v (g 0 4)
def svC (g : Nat → Nat → Int32) (s w : Nat) : Int32 := if w = 0 then g 2 s else if w = 1 then vSum (g 7) (s * 6) (zh g s) else if w = 2 then g 3 s else if w = 3 then g 4 s else g 5 s
def tvC (g : Nat → Nat → Int32) (x w : Nat) : Int32 := if w = 0 then g 9 x else if w = 1 then g 10 x else g 11 x
def wvC (g o : Nat → Nat → Int32) (w : Nat) : Int32 := if w = 0 then g 0 0 else if w = 1 then g 1 0 else if w = 2 then g 1 1 else if w = 3 then g 1 2 else if w = 4 then g 0 1 else if w = 5 then scN g 8 else if w = 6 then vAll g 8 else if w = 7 then g 0 2 else if w = 8 then vSum (g 5) 0 8 else if w = 9 then g 0 3 else if w = 10 then g 0 6 else if w = 11 then vSum (g 3) 0 8 else if w = 12 then g 0 4 else if w = 13 then g 0 5 else if w = 14 then g 0 7 else o 0 0
def hrI (g : Nat → Nat → Int32) (i : Nat) : Int32 := g 0 4 + nI i - (g 0 4 + nI i) / nI 12 * nI 12
def trT (g t : Nat → Nat → Int32) : Nat → Nat → Nat → Int32
  | 0 => t
  | i + 1 => mlG (trT g t i) (hrI g i)
def trS (g t : Nat → Nat → Int32) : Nat → Int32
  | 0 => nI 0
  | i + 1 => trS g t i + mlS (trT g t i) (hrI g i)
theorem okH_tr {g t : Nat → Nat → Int32} (ht : okH t) : ∀ i, okH (trT g t i)
  | 0 => ht
  | i + 1 => okH_ml (okH_tr ht i) _
theorem okH_cp {g t : Nat → Nat → Int32} (hg : okH g) : okH (cpSt t g) := hg
theorem hrI_1 (g : Nat → Nat → Int32) (i : Nat) : g 0 4 + nI (i + 1) - nI 1 = g 0 4 + nI i := by
  have e : nI (i + 1) = nI i + nI 1 := (nI_add i 1).symm
  rw [e, ← Int32.add_assoc, Int32.add_sub_cancel]
/-- the first of the hours behind which the site is empty -/
def gnR (g t : Nat → Nat → Int32) (s : Nat) : Nat → Nat → Int32
  | 0, _ => (-1)
  | k + 1, i => if hbl (trT g t (i + 1)) (nI s) (nI 0) = 0 then nI (i + 1) else gnR g t s k (i + 1)
def gnT (g t : Nat → Nat → Int32) (s : Nat) : Nat → Nat → Nat → Nat → Int32
  | 0, i => trT g t i
  | k + 1, i => if hbl (trT g t (i + 1)) (nI s) (nI 0) = 0 then trT g t (i + 1) else gnT g t s k (i + 1)
theorem gn_0 {g t : Nat → Nat → Int32} {s k i : Nat} {r : Int32} {T : Nat → Nat → Int32} (hk : k = 200 - i) (hi : i < 200) (h1 : gnR g t s k i = r) (h2 : gnT g t s k i = T) (c : hbl (trT g t (i + 1)) (nI s) (nI 0) = 0) : r = nI (i + 1) ∧ T = trT g t (i + 1) := by
  obtain ⟨j, rfl⟩ : ∃ j, k = j + 1 := ⟨k - 1, by omega⟩
  subst h1; subst h2
  exact ⟨if_pos c, if_pos c⟩
theorem gn_1 {g t : Nat → Nat → Int32} {s k i : Nat} {r : Int32} {T : Nat → Nat → Int32} (hk : k = 200 - i) (hi : i < 200) (h1 : gnR g t s k i = r) (h2 : gnT g t s k i = T) (c : ¬ hbl (trT g t (i + 1)) (nI s) (nI 0) = 0) : gnR g t s (200 - (i + 1)) (i + 1) = r ∧ gnT g t s (200 - (i + 1)) (i + 1) = T := by
  obtain ⟨j, rfl⟩ : ∃ j, k = j + 1 := ⟨k - 1, by omega⟩
  have e : 200 - (i + 1) = j := by omega
  subst h1; subst h2
  rw [e]
  exact ⟨(if_neg c).symm, (if_neg c).symm⟩
def bwW (g t : Nat → Nat → Int32) (s : Nat) : Nat → Nat → Int32 := va_up (cpSt t g) 3 (upd (g 3) s (nI 1))
def bwI (g t : Nat → Nat → Int32) : Nat → Int32 × Int32 × (Nat → Nat → Int32)
  | 0 => ((-1), nI 0, trT g (cpSt t g) 12)
  | s + 1 => if g 3 s = 0 then (if trS g (cpSt t g) 12 - trS g (bwW g (bwI g t s).2.2 s) 12 ≤ (bwI g t s).2.1 then ((bwI g t s).1, (bwI g t s).2.1, trT g (bwW g (bwI g t s).2.2 s) 12) else (nI s, trS g (cpSt t g) 12 - trS g (bwW g (bwI g t s).2.2 s) 12, trT g (bwW g (bwI g t s).2.2 s) 12)) else bwI g t s
theorem okH_bw {g t : Nat → Nat → Int32} (hg : okH g) (s : Nat) : okH (bwW g t s) := hg
theorem bwI_0 {g t : Nat → Nat → Int32} {s : Nat} (c : ¬ g 3 s = 0) : bwI g t (s + 1) = bwI g t s := if_neg c
theorem bwI_1 {g t : Nat → Nat → Int32} {s : Nat} (c : g 3 s = 0) (d : trS g (cpSt t g) 12 - trS g (bwW g (bwI g t s).2.2 s) 12 ≤ (bwI g t s).2.1) : bwI g t (s + 1) = ((bwI g t s).1, (bwI g t s).2.1, trT g (bwW g (bwI g t s).2.2 s) 12) := (if_pos c).trans (if_pos d)
theorem bwI_2 {g t : Nat → Nat → Int32} {s : Nat} (c : g 3 s = 0) (d : ¬ trS g (cpSt t g) 12 - trS g (bwW g (bwI g t s).2.2 s) 12 ≤ (bwI g t s).2.1) : bwI g t (s + 1) = (nI s, trS g (cpSt t g) 12 - trS g (bwW g (bwI g t s).2.2 s) 12, trT g (bwW g (bwI g t s).2.2 s) 12) := (if_pos c).trans (if_neg d)
set_option maxHeartbeats 4000000 in
set_option maxRecDepth 100000 in
/-- mix -/
theorem c_X9_mix {l : Launch} {y : zY} {D : va_G} (h0 : Int64) (v : Int32) : zM l y D yX9_mix wsX9_mix 0 0 [.long h0, .int v] ([]) ([]) (some (.long (31 * h0 + v.toInt64))) := by
  refine z_start (own := RX9) (cc := cX9_mix) (maxL := 3) (ret := (some .long)) rfl (by decide +kernel) rfl (Nat.le_of_ble_eq_true rfl) rfl ?_
  intro E hEl hEy hED h hf
  subst hEl hEy hED
  have hkR : 0 ≤ E.2.2.2.2.2.1.cells ∧ 0 ≤ E.2.2.2.2.2.1.slots := ⟨Nat.zero_le _, Nat.zero_le _⟩
  refine z_cast (lv := [(0, .long h0), (2, .int v)]) (ws := ([])) (st := []) ?_ rfl rfl rfl
  refine z_ldc2 h (31) (List.mem_of_getElem? (i := 1) (by decide +kernel)) dX9_mix_0 ?_
  refine z_lload_n h 0 rfl dX9_mix_3 ?_
  refine z_lmul h dX9_mix_4 ?_
  refine z_iload_n h 1 rfl dX9_mix_5 ?_
  refine z_i2l h dX9_mix_6 ?_
  refine z_ladd h dX9_mix_7 ?_
  exact z_lret h hf rfl rfl rfl dX9_mix_8

theorem iX9_block_X4 : ∀ w ∈ u_ws RX4 TX4 7, w ∈ wsX9_block := by decide +kernel
theorem iX9_block_X5 : ∀ w ∈ u_ws RX5 TX5 10, w ∈ wsX9_block := by decide +kernel
theorem iX9_block_X9 : ∀ w ∈ u_ws RX9 TX9 5, w ∈ wsX9_block := by decide +kernel
set_option maxHeartbeats 4000000 in
set_option maxRecDepth 100000 in
/-- X9_block -/
theorem c_X9_block {l : Launch} {y : zY} {D : va_G} (q : Nat → Nat) (a : Nat → Nat → Nat) (g t c o n : Nat → Nat → Int32) (S : Nat → Nat → Nat → Int32) (s v w : Nat) (hs : s < 8) (hv : v < 6) (h0 : siC (nI s) = nI 0) (h1 : ¬ wi (nI v) (nI 0) (nI 5) = 0) (h2 : ¬ wi (nI w) (nI 0) (nI 2) = 0) : zM l y D yX9_block wsX9_block 3 62 [.ref (q 0), .int (nI s), .int (nI v), .int (nI w)] (zCW y q a g t c o n S) (zCW y q a g t c o n S) (some (.int (bvC g s v w))) := by
  refine z_start (own := RX9) (cc := cX9_block) (maxL := 4) (ret := (some .int)) rfl (by decide +kernel) rfl (Nat.le_of_ble_eq_true rfl) (zCW_fst _ _ _ _ _ _ _ _ _ _ _ _ _ _ _) ?_
  intro E hEl hEy hED h hf
  subst hEl hEy hED
  have hkR : 0 ≤ E.2.2.2.2.2.1.cells ∧ 0 ≤ E.2.2.2.2.2.1.slots := ⟨Nat.zero_le _, Nat.zero_le _⟩
  refine z_cast (lv := [(0, .ref (q 0)), (1, .int (nI s)), (2, .int (nI v)), (3, .int (nI w))]) (ws := (zCW (zy E) q a g t c o n S)) (st := []) ?_ rfl rfl rfl
  refine z_iload_n h 1 rfl dX9_block_0 ?_
  refine z_callS h (As := [.int (nI s)]) (st := []) (ws2 := zCW (zy E) q a g t c o n S) (B := []) (B' := []) (r := some (.int (siC (nI s)))) 1 (c_X9_siteRefusal (nI s)) gX9_block_X9_siteRefusal (by decide +kernel) rfl ⟨by decide, by decide⟩ [] rfl (by decide) rfl (Nat.le_of_ble_eq_true rfl) rfl rfl dX9_block_1 ?_ hkR
  refine z_top (nI 0) h0 ?_
  refine z_callS h (As := [.int (nI 0)]) (st := []) (ws2 := zCW (zy E) q a g t c o n S) (B := []) (B' := []) (r := none) 1 c_X9_throwFor_0 gX9_block_X9_throwFor (by decide +kernel) rfl ⟨by decide, by decide⟩ [] rfl (by decide) rfl (Nat.le_of_ble_eq_true rfl) rfl rfl dX9_block_4 ?_ hkR
  refine z_iload_n h 2 rfl dX9_block_7 ?_
  refine z_iconst h (nI 0) (by decide +kernel) dX9_block_8 ?_
  refine z_iconst h (nI 5) (by decide +kernel) dX9_block_9 ?_
  refine z_callS h (As := [.int (nI v), .int (nI 0), .int (nI 5)]) (st := []) (ws2 := zCW (zy E) q a g t c o n S) (B := []) (B' := []) (r := some (.int (wi (nI v) (nI 0) (nI 5)))) 3 (c_X9_isWithin (nI v) (nI 0) (nI 5)) gX9_block_X9_isWithin (by decide +kernel) rfl ⟨by decide, by decide⟩ [] rfl (by decide) rfl (Nat.le_of_ble_eq_true rfl) rfl rfl dX9_block_10 ?_ hkR
  refine z_if_eq h 25 dX9_block_13 (by decide) (fun c_13 => ?_) (fun c_13 => ?_)
  · exact absurd c_13 h1
  · refine z_iload_n h 3 rfl dX9_block_16 ?_
    refine z_iconst h (nI 0) (by decide +kernel) dX9_block_17 ?_
    refine z_iconst h (nI 2) (by decide +kernel) dX9_block_18 ?_
    refine z_callS h (As := [.int (nI w), .int (nI 0), .int (nI 2)]) (st := []) (ws2 := zCW (zy E) q a g t c o n S) (B := []) (B' := []) (r := some (.int (wi (nI w) (nI 0) (nI 2)))) 3 (c_X9_isWithin (nI w) (nI 0) (nI 2)) gX9_block_X9_isWithin (by decide +kernel) rfl ⟨by decide, by decide⟩ [] rfl (by decide) rfl (Nat.le_of_ble_eq_true rfl) rfl rfl dX9_block_19 ?_ hkR
    refine z_if_ne h 35 dX9_block_22 (by decide) (fun c_22 => ?_) (fun c_22 => ?_)
    · refine z_aload_n h 0 rfl dX9_block_35 ?_
      refine z_get h 0 7 0 (v := .ref (q 1)) rfl rfl iX9_block_X9 (by decide) (List.mem_of_getElem? (i := 3) (by decide +kernel)) rfl rfl dX9_block_36 ?_
      refine z_get h 1 4 7 (v := .ref (q 3)) rfl rfl iX9_block_X5 (by decide) (List.mem_of_getElem? (i := 4) (by decide +kernel)) rfl rfl dX9_block_39 ?_
      refine z_iload_n h 1 rfl dX9_block_42 ?_
      refine z_iload_n h 2 rfl dX9_block_43 ?_
      refine z_wV h (As := [.int (nI s), .int (nI v)]) (st := []) (ws2 := zCW (zy E) q a g t c o n S) (r := some (.int (hbl g (nI s) (nI v)))) 2 (l_nst (c_X4_hasBlock (fun i => q (3 + i)) g (nI s) (nI v))) gX9_block_X4_hasBlock (q0 := 3) (ci := 3) (by decide +kernel) rfl rfl rfl ⟨by decide, by decide⟩ (Nat.le_of_ble_eq_true rfl) rfl rfl dX9_block_44 ?_ hkR
      refine z_if_ne h 52 dX9_block_47 (by decide) (fun c_47 => ?_) (fun c_47 => ?_)
      · refine z_iload_n h 3 rfl dX9_block_52 ?_
        by_cases c_53_0 : nI w = 0
        · refine z_look h (off := 27) 80 dX9_block_53 (by decide +kernel) (by rw [c_53_0]; decide +kernel) (by decide) ?_
          refine z_aload_n h 0 rfl dX9_block_80 ?_
          refine z_get h 0 7 0 (v := .ref (q 1)) rfl rfl iX9_block_X9 (by decide) (List.mem_of_getElem? (i := 3) (by decide +kernel)) rfl rfl dX9_block_81 ?_
          refine z_get h 1 4 7 (v := .ref (q 3)) rfl rfl iX9_block_X5 (by decide) (List.mem_of_getElem? (i := 4) (by decide +kernel)) rfl rfl dX9_block_84 ?_
          refine z_get h 3 3 4 (v := .ref (q 8)) rfl rfl iX9_block_X4 (by decide) (List.mem_of_getElem? (i := 5) (by decide +kernel)) rfl rfl dX9_block_87 ?_
          refine z_iload_n h 1 rfl dX9_block_90 ?_
          refine z_iload_n h 2 rfl dX9_block_91 ?_
          refine z_callS h (As := [.int (nI s), .int (nI v)]) (st := [.ref (q 8)]) (ws2 := zCW (zy E) q a g t c o n S) (B := []) (B' := []) (r := some (.int (nI (s * 6 + v)))) 2 (c_X9_placeOf s v) gX9_block_X9_placeOf (by decide +kernel) rfl ⟨by decide, by decide⟩ [] rfl (by decide) rfl (Nat.le_of_ble_eq_true rfl) rfl rfl dX9_block_92 ?_ hkR
          refine z_iald h 8 (s * 6 + v) (f := g 6) rfl rfl rfl (by omega) (by decide) dX9_block_95 ?_
          exact z_iret h hf rfl (by simp only [bvC, if_neg c_13, if_neg c_22, if_neg c_47, if_pos c_53_0]) rfl dX9_block_96
        by_cases c_53_1 : nI w = 1
        · refine z_look h (off := 44) 97 dX9_block_53 (by decide +kernel) (by rw [c_53_1]; decide +kernel) (by decide) ?_
          refine z_aload_n h 0 rfl dX9_block_97 ?_
          refine z_get h 0 7 0 (v := .ref (q 1)) rfl rfl iX9_block_X9 (by decide) (List.mem_of_getElem? (i := 3) (by decide +kernel)) rfl rfl dX9_block_98 ?_
          refine z_get h 1 4 7 (v := .ref (q 3)) rfl rfl iX9_block_X5 (by decide) (List.mem_of_getElem? (i := 4) (by decide +kernel)) rfl rfl dX9_block_101 ?_
          refine z_get h 3 3 5 (v := .ref (q 9)) rfl rfl iX9_block_X4 (by decide) (List.mem_of_getElem? (i := 6) (by decide +kernel)) rfl rfl dX9_block_104 ?_
          refine z_iload_n h 1 rfl dX9_block_107 ?_
          refine z_iload_n h 2 rfl dX9_block_108 ?_
          refine z_callS h (As := [.int (nI s), .int (nI v)]) (st := [.ref (q 9)]) (ws2 := zCW (zy E) q a g t c o n S) (B := []) (B' := []) (r := some (.int (nI (s * 6 + v)))) 2 (c_X9_placeOf s v) gX9_block_X9_placeOf (by decide +kernel) rfl ⟨by decide, by decide⟩ [] rfl (by decide) rfl (Nat.le_of_ble_eq_true rfl) rfl rfl dX9_block_109 ?_ hkR
          refine z_iald h 9 (s * 6 + v) (f := g 7) rfl rfl rfl (by omega) (by decide) dX9_block_112 ?_
          exact z_iret h hf rfl (by simp only [bvC, if_neg c_13, if_neg c_22, if_neg c_47, if_neg c_53_0, if_pos c_53_1]) rfl dX9_block_113
        refine z_look h (off := 61) 114 dX9_block_53 (by decide +kernel) (by show Op.lookupswitch.offset [(0, 27), (1, 44)] _ _ = _; rw [lv_osw c_53_0 (by decide +kernel)]; rw [lv_osw c_53_1 (by decide +kernel)]; rfl) (by decide) ?_
        refine z_aload_n h 0 rfl dX9_block_114 ?_
        refine z_get h 0 7 0 (v := .ref (q 1)) rfl rfl iX9_block_X9 (by decide) (List.mem_of_getElem? (i := 3) (by decide +kernel)) rfl rfl dX9_block_115 ?_
        refine z_get h 1 4 7 (v := .ref (q 3)) rfl rfl iX9_block_X5 (by decide) (List.mem_of_getElem? (i := 4) (by decide +kernel)) rfl rfl dX9_block_118 ?_
        refine z_iload_n h 1 rfl dX9_block_121 ?_
        refine z_iload_n h 2 rfl dX9_block_122 ?_
        refine z_aload_n h 0 rfl dX9_block_123 ?_
        refine z_get h 0 7 0 (v := .ref (q 1)) rfl rfl iX9_block_X9 (by decide) (List.mem_of_getElem? (i := 3) (by decide +kernel)) rfl rfl dX9_block_124 ?_
        refine z_get h 1 4 4 (v := .int ((g 0) 4)) rfl rfl iX9_block_X5 (by decide) (List.mem_of_getElem? (i := 7) (by decide +kernel)) rfl rfl dX9_block_127 ?_
        refine z_wV h (As := [.int (nI s), .int (nI v), .int ((g 0) 4)]) (st := []) (ws2 := zCW (zy E) q a g t c o n S) (r := some (.int (fcs g s v ((g 0) 4)))) 3 (l_nst (c_X4_facesInSun (fun i => q (3 + i)) g s v ((g 0) 4) (by omega))) gX9_block_X4_facesInSun (q0 := 3) (ci := 3) (by decide +kernel) rfl rfl rfl ⟨by decide, by decide⟩ (Nat.le_of_ble_eq_true rfl) rfl rfl dX9_block_130 ?_ hkR
        exact z_iret h hf rfl (by simp only [bvC, if_neg c_13, if_neg c_22, if_neg c_47, if_neg c_53_0, if_neg c_53_1]) rfl dX9_block_133
      · refine z_iconst h ((-1)) (by decide +kernel) dX9_block_50 ?_
        exact z_iret h hf rfl (by simp only [bvC, if_neg c_13, if_neg c_22, if_pos c_47]) rfl dX9_block_51
    · exact absurd c_22 h2

theorem iX9_site_X4 : ∀ w ∈ u_ws RX4 TX4 7, w ∈ wsX9_site := by decide +kernel
theorem iX9_site_X5 : ∀ w ∈ u_ws RX5 TX5 10, w ∈ wsX9_site := by decide +kernel
theorem iX9_site_X9 : ∀ w ∈ u_ws RX9 TX9 5, w ∈ wsX9_site := by decide +kernel
set_option maxHeartbeats 4000000 in
set_option maxRecDepth 100000 in
/-- X9_site -/
theorem c_X9_site {l : Launch} {y : zY} {D : va_G} (q : Nat → Nat) (a : Nat → Nat → Nat) (g t c o n : Nat → Nat → Int32) (S : Nat → Nat → Nat → Int32) (s w : Nat) (hs : s < 8) (hw : w ≤ 4) (hg : okH g) (h0 : siC (nI s) = nI 0) : zM l y D yX9_site wsX9_site 3 62 [.ref (q 0), .int (nI s), .int (nI w)] (zCW y q a g t c o n S) (zCW y q a g t c o n S) (some (.int (svC g s w))) := by
  refine z_start (own := RX9) (cc := cX9_site) (maxL := 3) (ret := (some .int)) rfl (by decide +kernel) rfl (Nat.le_of_ble_eq_true rfl) (zCW_fst _ _ _ _ _ _ _ _ _ _ _ _ _ _ _) ?_
  intro E hEl hEy hED h hf
  subst hEl hEy hED
  have hkR : 0 ≤ E.2.2.2.2.2.1.cells ∧ 0 ≤ E.2.2.2.2.2.1.slots := ⟨Nat.zero_le _, Nat.zero_le _⟩
  refine z_cast (lv := [(0, .ref (q 0)), (1, .int (nI s)), (2, .int (nI w))]) (ws := (zCW (zy E) q a g t c o n S)) (st := []) ?_ rfl rfl rfl
  refine z_iload_n h 1 rfl dX9_site_0 ?_
  refine z_callS h (As := [.int (nI s)]) (st := []) (ws2 := zCW (zy E) q a g t c o n S) (B := []) (B' := []) (r := some (.int (siC (nI s)))) 1 (c_X9_siteRefusal (nI s)) gX9_site_X9_siteRefusal (by decide +kernel) rfl ⟨by decide, by decide⟩ [] rfl (by decide) rfl (Nat.le_of_ble_eq_true rfl) rfl rfl dX9_site_1 ?_ hkR
  refine z_top (nI 0) h0 ?_
  refine z_callS h (As := [.int (nI 0)]) (st := []) (ws2 := zCW (zy E) q a g t c o n S) (B := []) (B' := []) (r := none) 1 c_X9_throwFor_0 gX9_site_X9_throwFor (by decide +kernel) rfl ⟨by decide, by decide⟩ [] rfl (by decide) rfl (Nat.le_of_ble_eq_true rfl) rfl rfl dX9_site_4 ?_ hkR
  refine z_iload_n h 2 rfl dX9_site_7 ?_
  by_cases c_8_0 : w = 0
  · refine z_tblIn h (off := 36) 44 dX9_site_8 (by rw [nI_toInt (by omega)]; omega) (by rw [nI_toInt (by omega)]; omega) (by rw [c_8_0]; decide +kernel) (by decide) ?_
    refine z_aload_n h 0 rfl dX9_site_44 ?_
    refine z_get h 0 7 0 (v := .ref (q 1)) rfl rfl iX9_site_X9 (by decide) (List.mem_of_getElem? (i := 3) (by decide +kernel)) rfl rfl dX9_site_45 ?_
    refine z_get h 1 4 7 (v := .ref (q 3)) rfl rfl iX9_site_X5 (by decide) (List.mem_of_getElem? (i := 4) (by decide +kernel)) rfl rfl dX9_site_48 ?_
    refine z_get h 3 3 0 (v := .ref (q 4)) rfl rfl iX9_site_X4 (by decide) (List.mem_of_getElem? (i := 5) (by decide +kernel)) rfl rfl dX9_site_51 ?_
    refine z_iload_n h 1 rfl dX9_site_54 ?_
    refine z_iald h 4 s (f := g 2) rfl rfl rfl (by omega) (by decide) dX9_site_55 ?_
    exact z_iret h hf rfl (by simp only [svC, if_pos c_8_0]) rfl dX9_site_56
  by_cases c_8_1 : w = 1
  · refine z_tblIn h (off := 49) 57 dX9_site_8 (by rw [nI_toInt (by omega)]; omega) (by rw [nI_toInt (by omega)]; omega) (by rw [c_8_1]; decide +kernel) (by decide) ?_
    refine z_aload_n h 0 rfl dX9_site_57 ?_
    refine z_get h 0 7 0 (v := .ref (q 1)) rfl rfl iX9_site_X9 (by decide) (List.mem_of_getElem? (i := 3) (by decide +kernel)) rfl rfl dX9_site_58 ?_
    refine z_get h 1 4 7 (v := .ref (q 3)) rfl rfl iX9_site_X5 (by decide) (List.mem_of_getElem? (i := 4) (by decide +kernel)) rfl rfl dX9_site_61 ?_
    refine z_iload_n h 1 rfl dX9_site_64 ?_
    refine z_wV h (As := [.int (nI s)]) (st := []) (ws2 := zCW (zy E) q a g t c o n S) (r := some (.int (vSum (g 7) (s * 6) (zh g s)))) 1 (l_nst (c_X4_volumeOf (fun i => q (3 + i)) g s (by omega) hg)) gX9_site_X4_volumeOf (q0 := 3) (ci := 3) (by decide +kernel) rfl rfl rfl ⟨by decide, by decide⟩ (Nat.le_of_ble_eq_true rfl) rfl rfl dX9_site_65 ?_ hkR
    exact z_iret h hf rfl (by simp only [svC, if_neg c_8_0, if_pos c_8_1]) rfl dX9_site_68
  by_cases c_8_2 : w = 2
  · refine z_tblIn h (off := 61) 69 dX9_site_8 (by rw [nI_toInt (by omega)]; omega) (by rw [nI_toInt (by omega)]; omega) (by rw [c_8_2]; decide +kernel) (by decide) ?_
    refine z_aload_n h 0 rfl dX9_site_69 ?_
    refine z_get h 0 7 0 (v := .ref (q 1)) rfl rfl iX9_site_X9 (by decide) (List.mem_of_getElem? (i := 3) (by decide +kernel)) rfl rfl dX9_site_70 ?_
    refine z_get h 1 4 7 (v := .ref (q 3)) rfl rfl iX9_site_X5 (by decide) (List.mem_of_getElem? (i := 4) (by decide +kernel)) rfl rfl dX9_site_73 ?_
    refine z_get h 3 3 1 (v := .ref (q 5)) rfl rfl iX9_site_X4 (by decide) (List.mem_of_getElem? (i := 6) (by decide +kernel)) rfl rfl dX9_site_76 ?_
    refine z_iload_n h 1 rfl dX9_site_79 ?_
    refine z_iald h 5 s (f := g 3) rfl rfl rfl (by omega) (by decide) dX9_site_80 ?_
    exact z_iret h hf rfl (by simp only [svC, if_neg c_8_0, if_neg c_8_1, if_pos c_8_2]) rfl dX9_site_81
  by_cases c_8_3 : w = 3
  · refine z_tblIn h (off := 74) 82 dX9_site_8 (by rw [nI_toInt (by omega)]; omega) (by rw [nI_toInt (by omega)]; omega) (by rw [c_8_3]; decide +kernel) (by decide) ?_
    refine z_aload_n h 0 rfl dX9_site_82 ?_
    refine z_get h 0 7 0 (v := .ref (q 1)) rfl rfl iX9_site_X9 (by decide) (List.mem_of_getElem? (i := 3) (by decide +kernel)) rfl rfl dX9_site_83 ?_
    refine z_get h 1 4 7 (v := .ref (q 3)) rfl rfl iX9_site_X5 (by decide) (List.mem_of_getElem? (i := 4) (by decide +kernel)) rfl rfl dX9_site_86 ?_
    refine z_get h 3 3 2 (v := .ref (q 6)) rfl rfl iX9_site_X4 (by decide) (List.mem_of_getElem? (i := 7) (by decide +kernel)) rfl rfl dX9_site_89 ?_
    refine z_iload_n h 1 rfl dX9_site_92 ?_
    refine z_iald h 6 s (f := g 4) rfl rfl rfl (by omega) (by decide) dX9_site_93 ?_
    exact z_iret h hf rfl (by simp only [svC, if_neg c_8_0, if_neg c_8_1, if_neg c_8_2, if_pos c_8_3]) rfl dX9_site_94
  by_cases c_8_4 : w = 4
  · refine z_tblIn h (off := 87) 95 dX9_site_8 (by rw [nI_toInt (by omega)]; omega) (by rw [nI_toInt (by omega)]; omega) (by rw [c_8_4]; decide +kernel) (by decide) ?_
    refine z_aload_n h 0 rfl dX9_site_95 ?_
    refine z_get h 0 7 0 (v := .ref (q 1)) rfl rfl iX9_site_X9 (by decide) (List.mem_of_getElem? (i := 3) (by decide +kernel)) rfl rfl dX9_site_96 ?_
    refine z_get h 1 4 7 (v := .ref (q 3)) rfl rfl iX9_site_X5 (by decide) (List.mem_of_getElem? (i := 4) (by decide +kernel)) rfl rfl dX9_site_99 ?_
    refine z_get h 3 3 3 (v := .ref (q 7)) rfl rfl iX9_site_X4 (by decide) (List.mem_of_getElem? (i := 8) (by decide +kernel)) rfl rfl dX9_site_102 ?_
    refine z_iload_n h 1 rfl dX9_site_105 ?_
    refine z_iald h 7 s (f := g 5) rfl rfl rfl (by omega) (by decide) dX9_site_106 ?_
    exact z_iret h hf rfl (by simp only [svC, if_neg c_8_0, if_neg c_8_1, if_neg c_8_2, if_neg c_8_3, if_pos c_8_4]) rfl dX9_site_107
  exfalso; omega

theorem iX9_tool_X5 : ∀ w ∈ u_ws RX5 TX5 10, w ∈ wsX9_tool := by decide +kernel
theorem iX9_tool_X6 : ∀ w ∈ u_ws RX6 TX6 4, w ∈ wsX9_tool := by decide +kernel
theorem iX9_tool_X9 : ∀ w ∈ u_ws RX9 TX9 5, w ∈ wsX9_tool := by decide +kernel
set_option maxHeartbeats 4000000 in
set_option maxRecDepth 100000 in
/-- X9_tool -/
theorem c_X9_tool {l : Launch} {y : zY} {D : va_G} (q : Nat → Nat) (a : Nat → Nat → Nat) (g t c o n : Nat → Nat → Int32) (S : Nat → Nat → Nat → Int32) (x w : Nat) (hx : x < 5) (hw : w ≤ 2) (h0 : ¬ itC g (nI x) = 0) : zM l y D yX9_tool wsX9_tool 1 21 [.ref (q 0), .int (nI x), .int (nI w)] (zCW y q a g t c o n S) (zCW y q a g t c o n S) (some (.int (tvC g x w))) := by
  refine z_start (own := RX9) (cc := cX9_tool) (maxL := 3) (ret := (some .int)) rfl (by decide +kernel) rfl (Nat.le_of_ble_eq_true rfl) (zCW_fst _ _ _ _ _ _ _ _ _ _ _ _ _ _ _) ?_
  intro E hEl hEy hED h hf
  subst hEl hEy hED
  have hkR : 0 ≤ E.2.2.2.2.2.1.cells ∧ 0 ≤ E.2.2.2.2.2.1.slots := ⟨Nat.zero_le _, Nat.zero_le _⟩
  refine z_cast (lv := [(0, .ref (q 0)), (1, .int (nI x)), (2, .int (nI w))]) (ws := (zCW (zy E) q a g t c o n S)) (st := []) ?_ rfl rfl rfl
  refine z_aload_n h 0 rfl dX9_tool_0 ?_
  refine z_iload_n h 1 rfl dX9_tool_1 ?_
  refine z_wV h (As := [.int (nI x)]) (st := []) (ws2 := zCW (zy E) q a g t c o n S) (r := some (.int (itC g (nI x)))) 1 (c_X9_isTool q a g t c o n S (nI x)) gX9_tool_X9_isTool (q0 := 0) (ci := 7) (by decide +kernel) rfl rfl rfl ⟨by decide, by decide⟩ (Nat.le_of_ble_eq_true rfl) rfl rfl dX9_tool_2 ?_ hkR
  refine z_if_ne h 18 dX9_tool_5 (by decide) (fun c_5 => ?_) (fun c_5 => ?_)
  · refine z_iload_n h 2 rfl dX9_tool_18 ?_
    by_cases c_19_0 : w = 0
    · refine z_tblIn h (off := 25) 44 dX9_tool_19 (by rw [nI_toInt (by omega)]; omega) (by rw [nI_toInt (by omega)]; omega) (by rw [c_19_0]; decide +kernel) (by decide) ?_
      refine z_aload_n h 0 rfl dX9_tool_44 ?_
      refine z_get h 0 7 0 (v := .ref (q 1)) rfl rfl iX9_tool_X9 (by decide) (List.mem_of_getElem? (i := 5) (by decide +kernel)) rfl rfl dX9_tool_45 ?_
      refine z_get h 1 4 8 (v := .ref (q 11)) rfl rfl iX9_tool_X5 (by decide) (List.mem_of_getElem? (i := 6) (by decide +kernel)) rfl rfl dX9_tool_48 ?_
      refine z_get h 11 5 1 (v := .ref (q 12)) rfl rfl iX9_tool_X6 (by decide) (List.mem_of_getElem? (i := 7) (by decide +kernel)) rfl rfl dX9_tool_51 ?_
      refine z_iload_n h 1 rfl dX9_tool_54 ?_
      refine z_iald h 12 x (f := g 9) rfl rfl rfl (by omega) (by decide) dX9_tool_55 ?_
      exact z_iret h hf rfl (by simp only [tvC, if_neg c_5, if_pos c_19_0]) rfl dX9_tool_56
    by_cases c_19_1 : w = 1
    · refine z_tblIn h (off := 38) 57 dX9_tool_19 (by rw [nI_toInt (by omega)]; omega) (by rw [nI_toInt (by omega)]; omega) (by rw [c_19_1]; decide +kernel) (by decide) ?_
      refine z_aload_n h 0 rfl dX9_tool_57 ?_
      refine z_get h 0 7 0 (v := .ref (q 1)) rfl rfl iX9_tool_X9 (by decide) (List.mem_of_getElem? (i := 5) (by decide +kernel)) rfl rfl dX9_tool_58 ?_
      refine z_get h 1 4 8 (v := .ref (q 11)) rfl rfl iX9_tool_X5 (by decide) (List.mem_of_getElem? (i := 6) (by decide +kernel)) rfl rfl dX9_tool_61 ?_
      refine z_get h 11 5 2 (v := .ref (q 13)) rfl rfl iX9_tool_X6 (by decide) (List.mem_of_getElem? (i := 8) (by decide +kernel)) rfl rfl dX9_tool_64 ?_
      refine z_iload_n h 1 rfl dX9_tool_67 ?_
      refine z_iald h 13 x (f := g 10) rfl rfl rfl (by omega) (by decide) dX9_tool_68 ?_
      exact z_iret h hf rfl (by simp only [tvC, if_neg c_5, if_neg c_19_0, if_pos c_19_1]) rfl dX9_tool_69
    by_cases c_19_2 : w = 2
    · refine z_tblIn h (off := 51) 70 dX9_tool_19 (by rw [nI_toInt (by omega)]; omega) (by rw [nI_toInt (by omega)]; omega) (by rw [c_19_2]; decide +kernel) (by decide) ?_
      refine z_aload_n h 0 rfl dX9_tool_70 ?_
      refine z_get h 0 7 0 (v := .ref (q 1)) rfl rfl iX9_tool_X9 (by decide) (List.mem_of_getElem? (i := 5) (by decide +kernel)) rfl rfl dX9_tool_71 ?_
      refine z_get h 1 4 8 (v := .ref (q 11)) rfl rfl iX9_tool_X5 (by decide) (List.mem_of_getElem? (i := 6) (by decide +kernel)) rfl rfl dX9_tool_74 ?_
      refine z_get h 11 5 3 (v := .ref (q 14)) rfl rfl iX9_tool_X6 (by decide) (List.mem_of_getElem? (i := 9) (by decide +kernel)) rfl rfl dX9_tool_77 ?_
      refine z_iload_n h 1 rfl dX9_tool_80 ?_
      refine z_iald h 14 x (f := g 11) rfl rfl rfl (by omega) (by decide) dX9_tool_81 ?_
      exact z_iret h hf rfl (by simp only [tvC, if_neg c_5, if_neg c_19_0, if_neg c_19_1, if_pos c_19_2]) rfl dX9_tool_82
    exfalso; omega
  · exact absurd c_5 h0

theorem iX9_whole_X1 : ∀ w ∈ u_ws RX1 TX1 2, w ∈ wsX9_whole := by decide +kernel
theorem iX9_whole_X3 : ∀ w ∈ u_ws RX3 TX3 6, w ∈ wsX9_whole := by decide +kernel
theorem iX9_whole_X4 : ∀ w ∈ u_ws RX4 TX4 7, w ∈ wsX9_whole := by decide +kernel
theorem iX9_whole_X5 : ∀ w ∈ u_ws RX5 TX5 10, w ∈ wsX9_whole := by decide +kernel
theorem iX9_whole_X6 : ∀ w ∈ u_ws RX6 TX6 4, w ∈ wsX9_whole := by decide +kernel
theorem iX9_whole_X9 : ∀ w ∈ u_ws RX9 TX9 5, w ∈ wsX9_whole := by decide +kernel
set_option maxHeartbeats 4000000 in
set_option maxRecDepth 100000 in
/-- X9_whole -/
theorem c_X9_whole {l : Launch} {y : zY} {D : va_G} (q : Nat → Nat) (a : Nat → Nat → Nat) (g t c o n : Nat → Nat → Int32) (S : Nat → Nat → Nat → Int32) (w : Nat) (hw : w ≤ 15) (hg : okH g) : zM l y D yX9_whole wsX9_whole 3 66 [.ref (q 0), .int (nI w)] (zCW y q a g t c o n S) (zCW y q a g t c o n S) (some (.int (wvC g o w))) := by
  refine z_start (own := RX9) (cc := cX9_whole) (maxL := 2) (ret := (some .int)) rfl (by decide +kernel) rfl (Nat.le_of_ble_eq_true rfl) (zCW_fst _ _ _ _ _ _ _ _ _ _ _ _ _ _ _) ?_
  intro E hEl hEy hED h hf
  subst hEl hEy hED
  have hkR : 0 ≤ E.2.2.2.2.2.1.cells ∧ 0 ≤ E.2.2.2.2.2.1.slots := ⟨Nat.zero_le _, Nat.zero_le _⟩
  refine z_cast (lv := [(0, .ref (q 0)), (1, .int (nI w))]) (ws := (zCW (zy E) q a g t c o n S)) (st := []) ?_ rfl rfl rfl
  refine z_iload_n h 1 rfl dX9_whole_0 ?_
  by_cases c_1_0 : w = 0
  · refine z_tblIn h (off := 79) 80 dX9_whole_1 (by rw [nI_toInt (by omega)]; omega) (by rw [nI_toInt (by omega)]; omega) (by rw [c_1_0]; decide +kernel) (by decide) ?_
    refine z_aload_n h 0 rfl dX9_whole_80 ?_
    refine z_get h 0 7 0 (v := .ref (q 1)) rfl rfl iX9_whole_X9 (by decide) (List.mem_of_getElem? (i := 3) (by decide +kernel)) rfl rfl dX9_whole_81 ?_
    refine z_get h 1 4 0 (v := .int ((g 0) 0)) rfl rfl iX9_whole_X5 (by decide) (List.mem_of_getElem? (i := 4) (by decide +kernel)) rfl rfl dX9_whole_84 ?_
    exact z_iret h hf rfl (by simp only [wvC, if_pos c_1_0]) rfl dX9_whole_87
  by_cases c_1_1 : w = 1
  · refine z_tblIn h (off := 87) 88 dX9_whole_1 (by rw [nI_toInt (by omega)]; omega) (by rw [nI_toInt (by omega)]; omega) (by rw [c_1_1]; decide +kernel) (by decide) ?_
    refine z_aload_n h 0 rfl dX9_whole_88 ?_
    refine z_get h 0 7 0 (v := .ref (q 1)) rfl rfl iX9_whole_X9 (by decide) (List.mem_of_getElem? (i := 3) (by decide +kernel)) rfl rfl dX9_whole_89 ?_
    refine z_get h 1 4 6 (v := .ref (q 2)) rfl rfl iX9_whole_X5 (by decide) (List.mem_of_getElem? (i := 5) (by decide +kernel)) rfl rfl dX9_whole_92 ?_
    refine z_iload_n h 1 rfl dX9_whole_95 ?_
    refine z_iconst h (nI 1) (by decide +kernel) dX9_whole_96 ?_
    refine z_isub h dX9_whole_97 ?_
    refine z_iald h 2 0 (f := g 1) rfl rfl (by rw [c_1_1]; decide +kernel) (by decide) (by decide) dX9_whole_98 ?_
    exact z_iret h hf rfl (by simp only [wvC, if_neg c_1_0, if_pos c_1_1]) rfl dX9_whole_99
  by_cases c_1_2 : w = 2
  · refine z_tblIn h (off := 87) 88 dX9_whole_1 (by rw [nI_toInt (by omega)]; omega) (by rw [nI_toInt (by omega)]; omega) (by rw [c_1_2]; decide +kernel) (by decide) ?_
    refine z_aload_n h 0 rfl dX9_whole_88 ?_
    refine z_get h 0 7 0 (v := .ref (q 1)) rfl rfl iX9_whole_X9 (by decide) (List.mem_of_getElem? (i := 3) (by decide +kernel)) rfl rfl dX9_whole_89 ?_
    refine z_get h 1 4 6 (v := .ref (q 2)) rfl rfl iX9_whole_X5 (by decide) (List.mem_of_getElem? (i := 5) (by decide +kernel)) rfl rfl dX9_whole_92 ?_
    refine z_iload_n h 1 rfl dX9_whole_95 ?_
    refine z_iconst h (nI 1) (by decide +kernel) dX9_whole_96 ?_
    refine z_isub h dX9_whole_97 ?_
    refine z_iald h 2 1 (f := g 1) rfl rfl (by rw [c_1_2]; decide +kernel) (by decide) (by decide) dX9_whole_98 ?_
    exact z_iret h hf rfl (by simp only [wvC, if_neg c_1_0, if_neg c_1_1, if_pos c_1_2]) rfl dX9_whole_99
  by_cases c_1_3 : w = 3
  · refine z_tblIn h (off := 87) 88 dX9_whole_1 (by rw [nI_toInt (by omega)]; omega) (by rw [nI_toInt (by omega)]; omega) (by rw [c_1_3]; decide +kernel) (by decide) ?_
    refine z_aload_n h 0 rfl dX9_whole_88 ?_
    refine z_get h 0 7 0 (v := .ref (q 1)) rfl rfl iX9_whole_X9 (by decide) (List.mem_of_getElem? (i := 3) (by decide +kernel)) rfl rfl dX9_whole_89 ?_
    refine z_get h 1 4 6 (v := .ref (q 2)) rfl rfl iX9_whole_X5 (by decide) (List.mem_of_getElem? (i := 5) (by decide +kernel)) rfl rfl dX9_whole_92 ?_
    refine z_iload_n h 1 rfl dX9_whole_95 ?_
    refine z_iconst h (nI 1) (by decide +kernel) dX9_whole_96 ?_
    refine z_isub h dX9_whole_97 ?_
    refine z_iald h 2 2 (f := g 1) rfl rfl (by rw [c_1_3]; decide +kernel) (by decide) (by decide) dX9_whole_98 ?_
    exact z_iret h hf rfl (by simp only [wvC, if_neg c_1_0, if_neg c_1_1, if_neg c_1_2, if_pos c_1_3]) rfl dX9_whole_99
  by_cases c_1_4 : w = 4
  · refine z_tblIn h (off := 99) 100 dX9_whole_1 (by rw [nI_toInt (by omega)]; omega) (by rw [nI_toInt (by omega)]; omega) (by rw [c_1_4]; decide +kernel) (by decide) ?_
    refine z_aload_n h 0 rfl dX9_whole_100 ?_
    refine z_get h 0 7 0 (v := .ref (q 1)) rfl rfl iX9_whole_X9 (by decide) (List.mem_of_getElem? (i := 3) (by decide +kernel)) rfl rfl dX9_whole_101 ?_
    refine z_get h 1 4 1 (v := .int ((g 0) 1)) rfl rfl iX9_whole_X5 (by decide) (List.mem_of_getElem? (i := 6) (by decide +kernel)) rfl rfl dX9_whole_104 ?_
    exact z_iret h hf rfl (by simp only [wvC, if_neg c_1_0, if_neg c_1_1, if_neg c_1_2, if_neg c_1_3, if_pos c_1_4]) rfl dX9_whole_107
  by_cases c_1_5 : w = 5
  · refine z_tblIn h (off := 107) 108 dX9_whole_1 (by rw [nI_toInt (by omega)]; omega) (by rw [nI_toInt (by omega)]; omega) (by rw [c_1_5]; decide +kernel) (by decide) ?_
    refine z_aload_n h 0 rfl dX9_whole_108 ?_
    refine z_get h 0 7 0 (v := .ref (q 1)) rfl rfl iX9_whole_X9 (by decide) (List.mem_of_getElem? (i := 3) (by decide +kernel)) rfl rfl dX9_whole_109 ?_
    refine z_get h 1 4 7 (v := .ref (q 3)) rfl rfl iX9_whole_X5 (by decide) (List.mem_of_getElem? (i := 7) (by decide +kernel)) rfl rfl dX9_whole_112 ?_
    refine z_wV h (As := []) (st := []) (ws2 := zCW (zy E) q a g t c o n S) (r := some (.int (scN g 8))) 0 (l_nst (c_X4_sculptures (fun i => q (3 + i)) g)) gX9_whole_X4_sculptures (q0 := 3) (ci := 3) (by decide +kernel) rfl rfl rfl ⟨by decide, by decide⟩ (Nat.le_of_ble_eq_true rfl) rfl rfl dX9_whole_115 ?_ hkR
    exact z_iret h hf rfl (by simp only [wvC, if_neg c_1_0, if_neg c_1_1, if_neg c_1_2, if_neg c_1_3, if_neg c_1_4, if_pos c_1_5]) rfl dX9_whole_118
  by_cases c_1_6 : w = 6
  · refine z_tblIn h (off := 118) 119 dX9_whole_1 (by rw [nI_toInt (by omega)]; omega) (by rw [nI_toInt (by omega)]; omega) (by rw [c_1_6]; decide +kernel) (by decide) ?_
    refine z_aload_n h 0 rfl dX9_whole_119 ?_
    refine z_get h 0 7 0 (v := .ref (q 1)) rfl rfl iX9_whole_X9 (by decide) (List.mem_of_getElem? (i := 3) (by decide +kernel)) rfl rfl dX9_whole_120 ?_
    refine z_get h 1 4 7 (v := .ref (q 3)) rfl rfl iX9_whole_X5 (by decide) (List.mem_of_getElem? (i := 7) (by decide +kernel)) rfl rfl dX9_whole_123 ?_
    refine z_wV h (As := []) (st := []) (ws2 := zCW (zy E) q a g t c o n S) (r := some (.int (vAll g 8))) 0 (l_nst (c_X4_volumeOfAll (fun i => q (3 + i)) g hg)) gX9_whole_X4_volumeOfAll (q0 := 3) (ci := 3) (by decide +kernel) rfl rfl rfl ⟨by decide, by decide⟩ (Nat.le_of_ble_eq_true rfl) rfl rfl dX9_whole_126 ?_ hkR
    exact z_iret h hf rfl (by simp only [wvC, if_neg c_1_0, if_neg c_1_1, if_neg c_1_2, if_neg c_1_3, if_neg c_1_4, if_neg c_1_5, if_pos c_1_6]) rfl dX9_whole_129
  by_cases c_1_7 : w = 7
  · refine z_tblIn h (off := 129) 130 dX9_whole_1 (by rw [nI_toInt (by omega)]; omega) (by rw [nI_toInt (by omega)]; omega) (by rw [c_1_7]; decide +kernel) (by decide) ?_
    refine z_aload_n h 0 rfl dX9_whole_130 ?_
    refine z_get h 0 7 0 (v := .ref (q 1)) rfl rfl iX9_whole_X9 (by decide) (List.mem_of_getElem? (i := 3) (by decide +kernel)) rfl rfl dX9_whole_131 ?_
    refine z_get h 1 4 2 (v := .int ((g 0) 2)) rfl rfl iX9_whole_X5 (by decide) (List.mem_of_getElem? (i := 8) (by decide +kernel)) rfl rfl dX9_whole_134 ?_
    exact z_iret h hf rfl (by simp only [wvC, if_neg c_1_0, if_neg c_1_1, if_neg c_1_2, if_neg c_1_3, if_neg c_1_4, if_neg c_1_5, if_neg c_1_6, if_pos c_1_7]) rfl dX9_whole_137
  by_cases c_1_8 : w = 8
  · refine z_tblIn h (off := 137) 138 dX9_whole_1 (by rw [nI_toInt (by omega)]; omega) (by rw [nI_toInt (by omega)]; omega) (by rw [c_1_8]; decide +kernel) (by decide) ?_
    refine z_aload_n h 0 rfl dX9_whole_138 ?_
    refine z_get h 0 7 0 (v := .ref (q 1)) rfl rfl iX9_whole_X9 (by decide) (List.mem_of_getElem? (i := 3) (by decide +kernel)) rfl rfl dX9_whole_139 ?_
    refine z_get h 1 4 7 (v := .ref (q 3)) rfl rfl iX9_whole_X5 (by decide) (List.mem_of_getElem? (i := 7) (by decide +kernel)) rfl rfl dX9_whole_142 ?_
    refine z_get h 3 3 3 (v := .ref (q 7)) rfl rfl iX9_whole_X4 (by decide) (List.mem_of_getElem? (i := 9) (by decide +kernel)) rfl rfl dX9_whole_145 ?_
    refine z_callS h (As := [.ref (q 7)]) (st := []) (ws2 := zCW (zy E) q a g t c o n S) (B := [(q 7, .inl ((zy E).1 0, 8, .inl (g 5)))]) (B' := [(q 7, .inl ((zy E).1 0, 8, .inl (g 5)))]) (r := some (.int (vSum (g 5) 0 8))) 1 (c_X9_sum (q 7) (g 5)) gX9_whole_X9_sum (by decide +kernel) rfl ⟨by decide, by decide⟩ [7] rfl (by decide) rfl (Nat.le_of_ble_eq_true rfl) rfl rfl dX9_whole_148 ?_ hkR
    exact z_iret h hf rfl (by simp only [wvC, if_neg c_1_0, if_neg c_1_1, if_neg c_1_2, if_neg c_1_3, if_neg c_1_4, if_neg c_1_5, if_neg c_1_6, if_neg c_1_7, if_pos c_1_8]) rfl dX9_whole_151
  by_cases c_1_9 : w = 9
  · refine z_tblIn h (off := 151) 152 dX9_whole_1 (by rw [nI_toInt (by omega)]; omega) (by rw [nI_toInt (by omega)]; omega) (by rw [c_1_9]; decide +kernel) (by decide) ?_
    refine z_aload_n h 0 rfl dX9_whole_152 ?_
    refine z_get h 0 7 0 (v := .ref (q 1)) rfl rfl iX9_whole_X9 (by decide) (List.mem_of_getElem? (i := 3) (by decide +kernel)) rfl rfl dX9_whole_153 ?_
    refine z_get h 1 4 3 (v := .int ((g 0) 3)) rfl rfl iX9_whole_X5 (by decide) (List.mem_of_getElem? (i := 10) (by decide +kernel)) rfl rfl dX9_whole_156 ?_
    exact z_iret h hf rfl (by simp only [wvC, if_neg c_1_0, if_neg c_1_1, if_neg c_1_2, if_neg c_1_3, if_neg c_1_4, if_neg c_1_5, if_neg c_1_6, if_neg c_1_7, if_neg c_1_8, if_pos c_1_9]) rfl dX9_whole_159
  by_cases c_1_10 : w = 10
  · refine z_tblIn h (off := 159) 160 dX9_whole_1 (by rw [nI_toInt (by omega)]; omega) (by rw [nI_toInt (by omega)]; omega) (by rw [c_1_10]; decide +kernel) (by decide) ?_
    refine z_aload_n h 0 rfl dX9_whole_160 ?_
    refine z_get h 0 7 0 (v := .ref (q 1)) rfl rfl iX9_whole_X9 (by decide) (List.mem_of_getElem? (i := 3) (by decide +kernel)) rfl rfl dX9_whole_161 ?_
    refine z_get h 1 4 8 (v := .ref (q 11)) rfl rfl iX9_whole_X5 (by decide) (List.mem_of_getElem? (i := 11) (by decide +kernel)) rfl rfl dX9_whole_164 ?_
    refine z_get h 11 5 0 (v := .int ((g 0) 6)) rfl rfl iX9_whole_X6 (by decide) (List.mem_of_getElem? (i := 12) (by decide +kernel)) rfl rfl dX9_whole_167 ?_
    exact z_iret h hf rfl (by simp only [wvC, if_neg c_1_0, if_neg c_1_1, if_neg c_1_2, if_neg c_1_3, if_neg c_1_4, if_neg c_1_5, if_neg c_1_6, if_neg c_1_7, if_neg c_1_8, if_neg c_1_9, if_pos c_1_10]) rfl dX9_whole_170
  by_cases c_1_11 : w = 11
  · refine z_tblIn h (off := 170) 171 dX9_whole_1 (by rw [nI_toInt (by omega)]; omega) (by rw [nI_toInt (by omega)]; omega) (by rw [c_1_11]; decide +kernel) (by decide) ?_
    refine z_aload_n h 0 rfl dX9_whole_171 ?_
    refine z_get h 0 7 0 (v := .ref (q 1)) rfl rfl iX9_whole_X9 (by decide) (List.mem_of_getElem? (i := 3) (by decide +kernel)) rfl rfl dX9_whole_172 ?_
    refine z_get h 1 4 7 (v := .ref (q 3)) rfl rfl iX9_whole_X5 (by decide) (List.mem_of_getElem? (i := 7) (by decide +kernel)) rfl rfl dX9_whole_175 ?_
    refine z_get h 3 3 1 (v := .ref (q 5)) rfl rfl iX9_whole_X4 (by decide) (List.mem_of_getElem? (i := 13) (by decide +kernel)) rfl rfl dX9_whole_178 ?_
    refine z_callS h (As := [.ref (q 5)]) (st := []) (ws2 := zCW (zy E) q a g t c o n S) (B := [(q 5, .inl ((zy E).1 0, 8, .inl (g 3)))]) (B' := [(q 5, .inl ((zy E).1 0, 8, .inl (g 3)))]) (r := some (.int (vSum (g 3) 0 8))) 1 (c_X9_sum (q 5) (g 3)) gX9_whole_X9_sum (by decide +kernel) rfl ⟨by decide, by decide⟩ [5] rfl (by decide) rfl (Nat.le_of_ble_eq_true rfl) rfl rfl dX9_whole_181 ?_ hkR
    exact z_iret h hf rfl (by simp only [wvC, if_neg c_1_0, if_neg c_1_1, if_neg c_1_2, if_neg c_1_3, if_neg c_1_4, if_neg c_1_5, if_neg c_1_6, if_neg c_1_7, if_neg c_1_8, if_neg c_1_9, if_neg c_1_10, if_pos c_1_11]) rfl dX9_whole_184
  by_cases c_1_12 : w = 12
  · refine z_tblIn h (off := 184) 185 dX9_whole_1 (by rw [nI_toInt (by omega)]; omega) (by rw [nI_toInt (by omega)]; omega) (by rw [c_1_12]; decide +kernel) (by decide) ?_
    refine z_aload_n h 0 rfl dX9_whole_185 ?_
    refine z_get h 0 7 0 (v := .ref (q 1)) rfl rfl iX9_whole_X9 (by decide) (List.mem_of_getElem? (i := 3) (by decide +kernel)) rfl rfl dX9_whole_186 ?_
    refine z_get h 1 4 4 (v := .int ((g 0) 4)) rfl rfl iX9_whole_X5 (by decide) (List.mem_of_getElem? (i := 14) (by decide +kernel)) rfl rfl dX9_whole_189 ?_
    exact z_iret h hf rfl (by simp only [wvC, if_neg c_1_0, if_neg c_1_1, if_neg c_1_2, if_neg c_1_3, if_neg c_1_4, if_neg c_1_5, if_neg c_1_6, if_neg c_1_7, if_neg c_1_8, if_neg c_1_9, if_neg c_1_10, if_neg c_1_11, if_pos c_1_12]) rfl dX9_whole_192
  by_cases c_1_13 : w = 13
  · refine z_tblIn h (off := 192) 193 dX9_whole_1 (by rw [nI_toInt (by omega)]; omega) (by rw [nI_toInt (by omega)]; omega) (by rw [c_1_13]; decide +kernel) (by decide) ?_
    refine z_aload_n h 0 rfl dX9_whole_193 ?_
    refine z_get h 0 7 0 (v := .ref (q 1)) rfl rfl iX9_whole_X9 (by decide) (List.mem_of_getElem? (i := 3) (by decide +kernel)) rfl rfl dX9_whole_194 ?_
    refine z_get h 1 4 5 (v := .int ((g 0) 5)) rfl rfl iX9_whole_X5 (by decide) (List.mem_of_getElem? (i := 15) (by decide +kernel)) rfl rfl dX9_whole_197 ?_
    exact z_iret h hf rfl (by simp only [wvC, if_neg c_1_0, if_neg c_1_1, if_neg c_1_2, if_neg c_1_3, if_neg c_1_4, if_neg c_1_5, if_neg c_1_6, if_neg c_1_7, if_neg c_1_8, if_neg c_1_9, if_neg c_1_10, if_neg c_1_11, if_neg c_1_12, if_pos c_1_13]) rfl dX9_whole_200
  by_cases c_1_14 : w = 14
  · refine z_tblIn h (off := 200) 201 dX9_whole_1 (by rw [nI_toInt (by omega)]; omega) (by rw [nI_toInt (by omega)]; omega) (by rw [c_1_14]; decide +kernel) (by decide) ?_
    refine z_aload_n h 0 rfl dX9_whole_201 ?_
    refine z_get h 0 7 0 (v := .ref (q 1)) rfl rfl iX9_whole_X9 (by decide) (List.mem_of_getElem? (i := 3) (by decide +kernel)) rfl rfl dX9_whole_202 ?_
    refine z_get h 1 4 9 (v := .ref (q 15)) rfl rfl iX9_whole_X5 (by decide) (List.mem_of_getElem? (i := 16) (by decide +kernel)) rfl rfl dX9_whole_205 ?_
    refine z_get h 15 0 0 (v := .int ((g 0) 7)) rfl rfl iX9_whole_X1 (by decide) (List.mem_of_getElem? (i := 17) (by decide +kernel)) rfl rfl dX9_whole_208 ?_
    exact z_iret h hf rfl (by simp only [wvC, if_neg c_1_0, if_neg c_1_1, if_neg c_1_2, if_neg c_1_3, if_neg c_1_4, if_neg c_1_5, if_neg c_1_6, if_neg c_1_7, if_neg c_1_8, if_neg c_1_9, if_neg c_1_10, if_neg c_1_11, if_neg c_1_12, if_neg c_1_13, if_pos c_1_14]) rfl dX9_whole_211
  by_cases c_1_15 : w = 15
  · refine z_tblIn h (off := 211) 212 dX9_whole_1 (by rw [nI_toInt (by omega)]; omega) (by rw [nI_toInt (by omega)]; omega) (by rw [c_1_15]; decide +kernel) (by decide) ?_
    refine z_aload_n h 0 rfl dX9_whole_212 ?_
    refine z_get h 0 7 2 (v := .ref (q 28)) rfl rfl iX9_whole_X9 (by decide) (List.mem_of_getElem? (i := 18) (by decide +kernel)) rfl rfl dX9_whole_213 ?_
    refine z_get h 28 2 0 (v := .int ((o 0) 0)) rfl rfl iX9_whole_X3 (by decide) (List.mem_of_getElem? (i := 19) (by decide +kernel)) rfl rfl dX9_whole_216 ?_
    exact z_iret h hf rfl (by simp only [wvC, if_neg c_1_0, if_neg c_1_1, if_neg c_1_2, if_neg c_1_3, if_neg c_1_4, if_neg c_1_5, if_neg c_1_6, if_neg c_1_7, if_neg c_1_8, if_neg c_1_9, if_neg c_1_10, if_neg c_1_11, if_neg c_1_12, if_neg c_1_13, if_neg c_1_14, if_pos c_1_15]) rfl dX9_whole_219
  exfalso; omega

theorem iX9_reason_X9 : ∀ w ∈ u_ws RX9 TX9 5, w ∈ wsX9_reason := by decide +kernel
set_option maxHeartbeats 4000000 in
set_option maxRecDepth 100000 in
/-- X9_reason -/
theorem c_X9_reason {l : Launch} {y : zY} {D : va_G} (q : Nat → Nat) (a : Nat → Nat → Nat) (g t c o n : Nat → Nat → Int32) (S : Nat → Nat → Nat → Int32) (x s v : Nat) (u : Int32) (hx : x < 5) (hs : s < 8) (hv : v < 6) (h0 : caC g (nI x) (nI s) (nI v) u = nI 0) : zM l y D yX9_reason wsX9_reason 3 67 [.ref (q 0), .int (nI x), .int (nI s), .int (nI v), .int u] (zCW y q a g t c o n S) (zCW y q a g t c o n S) (some (.int (raG g x s v u))) := by
  refine z_start (own := RX9) (cc := cX9_reason) (maxL := 5) (ret := (some .int)) rfl (by decide +kernel) rfl (Nat.le_of_ble_eq_true rfl) (zCW_fst _ _ _ _ _ _ _ _ _ _ _ _ _ _ _) ?_
  intro E hEl hEy hED h hf
  subst hEl hEy hED
  have hkR : 0 ≤ E.2.2.2.2.2.1.cells ∧ 0 ≤ E.2.2.2.2.2.1.slots := ⟨Nat.zero_le _, Nat.zero_le _⟩
  refine z_cast (lv := [(0, .ref (q 0)), (1, .int (nI x)), (2, .int (nI s)), (3, .int (nI v)), (4, .int u)]) (ws := (zCW (zy E) q a g t c o n S)) (st := []) ?_ rfl rfl rfl
  refine z_aload_n h 0 rfl dX9_reason_0 ?_
  refine z_iload_n h 1 rfl dX9_reason_1 ?_
  refine z_iload_n h 2 rfl dX9_reason_2 ?_
  refine z_iload_n h 3 rfl dX9_reason_3 ?_
  refine z_iload h 4 rfl dX9_reason_4 ?_
  refine z_wV h (As := [.int (nI x), .int (nI s), .int (nI v), .int u]) (st := []) (ws2 := zCW (zy E) q a g t c o n S) (r := some (.int (caC g (nI x) (nI s) (nI v) u))) 4 (c_X9_carveArgumentsRefusal q a g t c o n S (nI x) (nI s) (nI v) u) gX9_reason_X9_carveArgumentsRefusal (q0 := 0) (ci := 7) (by decide +kernel) rfl rfl rfl ⟨by decide, by decide⟩ (Nat.le_of_ble_eq_true rfl) rfl rfl dX9_reason_6 ?_ hkR
  refine z_top (nI 0) h0 ?_
  refine z_callS h (As := [.int (nI 0)]) (st := []) (ws2 := zCW (zy E) q a g t c o n S) (B := []) (B' := []) (r := none) 1 c_X9_throwFor_0 gX9_reason_X9_throwFor (by decide +kernel) rfl ⟨by decide, by decide⟩ [] rfl (by decide) rfl (Nat.le_of_ble_eq_true rfl) rfl rfl dX9_reason_9 ?_ hkR
  refine z_aload_n h 0 rfl dX9_reason_12 ?_
  refine z_get h 0 7 0 (v := .ref (q 1)) rfl rfl iX9_reason_X9 (by decide) (List.mem_of_getElem? (i := 1) (by decide +kernel)) rfl rfl dX9_reason_13 ?_
  refine z_iload_n h 1 rfl dX9_reason_16 ?_
  refine z_iload_n h 2 rfl dX9_reason_17 ?_
  refine z_iload_n h 3 rfl dX9_reason_18 ?_
  refine z_iload h 4 rfl dX9_reason_19 ?_
  refine z_wV h (As := [.int (nI x), .int (nI s), .int (nI v), .int u]) (st := []) (ws2 := zCW (zy E) q a g t c o n S) (r := some (.int (raG g x s v u))) 4 (l_now (c_X5_reasonAgainst (fun i => q (1 + i)) g x s v u (by omega) (by omega) (by omega))) gX9_reason_X5_reasonAgainst (q0 := 1) (ci := 4) (by decide +kernel) rfl rfl rfl ⟨by decide, by decide⟩ (Nat.le_of_ble_eq_true rfl) rfl rfl dX9_reason_21 ?_ hkR
  exact z_iret h hf rfl rfl rfl dX9_reason_24

theorem iX9_meltTrial_X5 : ∀ w ∈ u_ws RX5 TX5 10, w ∈ wsX9_meltTrial := by decide +kernel
theorem iX9_meltTrial_X9 : ∀ w ∈ u_ws RX9 TX9 5, w ∈ wsX9_meltTrial := by decide +kernel
set_option maxHeartbeats 4000000 in
set_option maxRecDepth 100000 in
/-- X9_meltTrial -/
theorem c_X9_meltTrial {l : Launch} {y : zY} {D : va_G} (q : Nat → Nat) (a : Nat → Nat → Nat) (g t c o n : Nat → Nat → Int32) (S : Nat → Nat → Nat → Int32) (i9 : Nat) (hm : i9 ≤ 48) (ht : okH t) : zM l y D yX9_meltTrial wsX9_meltTrial 4 95 [.ref (q 0), .int (nI i9)] (zCW y q a g t c o n S) (zCW y q a g (trT g t i9) c o n S) (some (.int (trS g t i9))) := by
  refine z_start (own := RX9) (cc := cX9_meltTrial) (maxL := 4) (ret := (some .int)) rfl (by decide +kernel) rfl (Nat.le_of_ble_eq_true rfl) (zCW_fst _ _ _ _ _ _ _ _ _ _ _ _ _ _ _) ?_
  intro E hEl hEy hED h hf
  subst hEl hEy hED
  have hkR : 0 ≤ E.2.2.2.2.2.1.cells ∧ 0 ≤ E.2.2.2.2.2.1.slots := ⟨Nat.zero_le _, Nat.zero_le _⟩
  refine z_cast (lv := [(0, .ref (q 0)), (1, .int (nI i9))]) (ws := (zCW (zy E) q a g t c o n S)) (st := []) ?_ rfl rfl rfl
  refine z_iconst h (nI 0) (by decide +kernel) dX9_meltTrial_0 ?_
  refine z_istore_n h (by decide) (lv' := [(2, .int (nI 0)), (0, .ref (q 0)), (1, .int (nI i9))]) rfl dX9_meltTrial_1 ?_
  refine z_iconst h (nI 0) (by decide +kernel) dX9_meltTrial_2 ?_
  refine z_istore_n h (by decide) (lv' := [(3, .int (nI 0)), (2, .int (nI 0)), (0, .ref (q 0)), (1, .int (nI i9))]) rfl dX9_meltTrial_3 ?_
  have lp_4 : ∀ (d_4 i : Nat), i9 < i + d_4 → i ≤ i9 → Z E 0 0 [(0, .ref (q 0)), (1, .int (nI i9)), (2, .int (trS g t i)), (3, .int (nI i))] (zCW (zy E) q a g (trT g t i) c o n S) 4 [] := by
    intro d_4
    induction d_4 with
    | zero => intro i  q1 q2; omega
    | succ d_4 ih_4 =>
      intro i  q1_4 q2_4 
      refine z_iload_n h 3 rfl dX9_meltTrial_4 ?_
      refine z_iload_n h 1 rfl dX9_meltTrial_5 ?_
      refine z_icmp_ge h 37 dX9_meltTrial_6 (by decide) (fun c_6 => ?_) (fun c_6 => ?_)
      · have k_6 : i9 ≤ i := (nI_leI (by omega) (by omega)).mp c_6
        obtain rfl : i = i9 := by omega
        refine z_iload_n h 2 rfl dX9_meltTrial_37 ?_
        exact z_iret h hf rfl rfl rfl dX9_meltTrial_38
      · have k_6 : ¬ (i9 ≤ i) := fun q => c_6 ((nI_leI (by omega) (by omega)).mpr q)
        refine z_iload_n h 2 rfl dX9_meltTrial_9 ?_
        refine z_aload_n h 0 rfl dX9_meltTrial_10 ?_
        refine z_get h 0 7 4 (v := .ref (q 17)) rfl rfl iX9_meltTrial_X9 (by decide) (List.mem_of_getElem? (i := 1) (by decide +kernel)) rfl rfl dX9_meltTrial_11 ?_
        refine z_aload_n h 0 rfl dX9_meltTrial_14 ?_
        refine z_get h 0 7 0 (v := .ref (q 1)) rfl rfl iX9_meltTrial_X9 (by decide) (List.mem_of_getElem? (i := 2) (by decide +kernel)) rfl rfl dX9_meltTrial_15 ?_
        refine z_get h 1 4 4 (v := .int ((g 0) 4)) rfl rfl iX9_meltTrial_X5 (by decide) (List.mem_of_getElem? (i := 3) (by decide +kernel)) rfl rfl dX9_meltTrial_18 ?_
        refine z_iload_n h 3 rfl dX9_meltTrial_21 ?_
        refine z_iadd h dX9_meltTrial_22 ?_
        refine z_bipush h (nI 12) (by decide +kernel) dX9_meltTrial_23 ?_
        refine z_irem h dX9_meltTrial_25 (by decide) ?_
        refine z_top (hrI g i) rfl ?_
        refine z_wV h (As := [.int (hrI g i)]) (st := [.int (trS g t i)]) (ws2 := zCW (zy E) q a g (mlG (trT g t i) (hrI g i)) c o n S) (r := some (.int (mlS (trT g t i) (hrI g i)))) 1 (l_tri (c_X4_melt (fun i => q (17 + i)) (trT g t i) (hrI g i) (okH_tr ht i))) gX9_meltTrial_X4_melt (q0 := 17) (ci := 3) (by decide +kernel) rfl rfl rfl ⟨by decide, by decide⟩ (Nat.le_of_ble_eq_true rfl) rfl rfl dX9_meltTrial_26 ?_ hkR
        refine z_iadd h dX9_meltTrial_29 ?_
        refine z_top (trS g t (i + 1)) rfl ?_
        refine z_istore_n h (by decide) (lv' := [(2, .int (trS g t (i + 1))), (0, .ref (q 0)), (1, .int (nI i9)), (3, .int (nI i))]) rfl dX9_meltTrial_30 ?_
        refine z_iinc h 3 (nI (i + 1)) rfl z_i1 (by decide) (lv' := [(3, .int (nI (i + 1))), (2, .int (trS g t (i + 1))), (0, .ref (q 0)), (1, .int (nI i9))]) rfl dX9_meltTrial_31 ?_
        refine z_goto h 4 dX9_meltTrial_34 (by decide) ?_
        refine z_sub [2, 3, 1, 0] (lv' := [(0, .ref (q 0)), (1, .int (nI i9)), (2, .int (trS g t (i + 1))), (3, .int (nI (i + 1)))]) rfl ?_
        exact z_cast (ih_4 (i + 1) (by omega) (by omega)) rfl rfl rfl
  refine z_sub [2, 3, 1, 0] (lv' := [(0, .ref (q 0)), (1, .int (nI i9)), (2, .int (nI 0)), (3, .int (nI 0))]) rfl ?_
  exact z_cast (lp_4 (i9 + 1) 0 (by omega) (by omega)) rfl rfl rfl

theorem iX9_volumeIn_X5 : ∀ w ∈ u_ws RX5 TX5 10, w ∈ wsX9_volumeIn := by decide +kernel
theorem iX9_volumeIn_X9 : ∀ w ∈ u_ws RX9 TX9 5, w ∈ wsX9_volumeIn := by decide +kernel
set_option maxHeartbeats 4000000 in
set_option maxRecDepth 100000 in
/-- X9_volumeIn -/
theorem c_X9_volumeIn {l : Launch} {y : zY} {D : va_G} (q : Nat → Nat) (a : Nat → Nat → Nat) (g t c o n : Nat → Nat → Int32) (S : Nat → Nat → Nat → Int32) (s d : Nat) (hs : s < 8) (hd : d ≤ 48) (hg : okH g) (h0 : siC (nI s) = nI 0) (h1 : ¬ wi (nI d) (nI 0) (nI 48) = 0) : zM l y D yX9_volumeIn wsX9_volumeIn 5 122 [.ref (q 0), .int (nI s), .int (nI d)] (zCW y q a g t c o n S) (zCW y q a g (trT g (cpSt t g) d) c o n S) (some (.int (vSum (trT g (cpSt t g) d 7) (s * 6) (zh (trT g (cpSt t g) d) s)))) := by
  refine z_start (own := RX9) (cc := cX9_volumeIn) (maxL := 3) (ret := (some .int)) rfl (by decide +kernel) rfl (Nat.le_of_ble_eq_true rfl) (zCW_fst _ _ _ _ _ _ _ _ _ _ _ _ _ _ _) ?_
  intro E hEl hEy hED h hf
  subst hEl hEy hED
  have hkR : 0 ≤ E.2.2.2.2.2.1.cells ∧ 0 ≤ E.2.2.2.2.2.1.slots := ⟨Nat.zero_le _, Nat.zero_le _⟩
  refine z_cast (lv := [(0, .ref (q 0)), (1, .int (nI s)), (2, .int (nI d))]) (ws := (zCW (zy E) q a g t c o n S)) (st := []) ?_ rfl rfl rfl
  refine z_iload_n h 1 rfl dX9_volumeIn_0 ?_
  refine z_callS h (As := [.int (nI s)]) (st := []) (ws2 := zCW (zy E) q a g t c o n S) (B := []) (B' := []) (r := some (.int (siC (nI s)))) 1 (c_X9_siteRefusal (nI s)) gX9_volumeIn_X9_siteRefusal (by decide +kernel) rfl ⟨by decide, by decide⟩ [] rfl (by decide) rfl (Nat.le_of_ble_eq_true rfl) rfl rfl dX9_volumeIn_1 ?_ hkR
  refine z_top (nI 0) h0 ?_
  refine z_callS h (As := [.int (nI 0)]) (st := []) (ws2 := zCW (zy E) q a g t c o n S) (B := []) (B' := []) (r := none) 1 c_X9_throwFor_0 gX9_volumeIn_X9_throwFor (by decide +kernel) rfl ⟨by decide, by decide⟩ [] rfl (by decide) rfl (Nat.le_of_ble_eq_true rfl) rfl rfl dX9_volumeIn_4 ?_ hkR
  refine z_iload_n h 2 rfl dX9_volumeIn_7 ?_
  refine z_iconst h (nI 0) (by decide +kernel) dX9_volumeIn_8 ?_
  refine z_bipush h (nI 48) (by decide +kernel) dX9_volumeIn_9 ?_
  refine z_callS h (As := [.int (nI d), .int (nI 0), .int (nI 48)]) (st := []) (ws2 := zCW (zy E) q a g t c o n S) (B := []) (B' := []) (r := some (.int (wi (nI d) (nI 0) (nI 48)))) 3 (c_X9_isWithin (nI d) (nI 0) (nI 48)) gX9_volumeIn_X9_isWithin (by decide +kernel) rfl ⟨by decide, by decide⟩ [] rfl (by decide) rfl (Nat.le_of_ble_eq_true rfl) rfl rfl dX9_volumeIn_11 ?_ hkR
  refine z_if_ne h 27 dX9_volumeIn_14 (by decide) (fun c_14 => ?_) (fun c_14 => ?_)
  · refine z_aload_n h 0 rfl dX9_volumeIn_27 ?_
    refine z_get h 0 7 4 (v := .ref (q 17)) rfl rfl iX9_volumeIn_X9 (by decide) (List.mem_of_getElem? (i := 3) (by decide +kernel)) rfl rfl dX9_volumeIn_28 ?_
    refine z_aload_n h 0 rfl dX9_volumeIn_31 ?_
    refine z_get h 0 7 0 (v := .ref (q 1)) rfl rfl iX9_volumeIn_X9 (by decide) (List.mem_of_getElem? (i := 4) (by decide +kernel)) rfl rfl dX9_volumeIn_32 ?_
    refine z_get h 1 4 7 (v := .ref (q 3)) rfl rfl iX9_volumeIn_X5 (by decide) (List.mem_of_getElem? (i := 5) (by decide +kernel)) rfl rfl dX9_volumeIn_35 ?_
    refine z_wV h (As := [.ref (q 3)]) (st := []) (ws2 := zCW (zy E) q a g (cpSt t g) c o n S) (r := none) 1 (l_cpt (c_X4_copyFrom (fun i => q (17 + i)) t (fun i => q (3 + i)) g)) gX9_volumeIn_X4_copyFrom (q0 := 17) (ci := 3) (by decide +kernel) rfl rfl rfl ⟨by decide, by decide⟩ (Nat.le_of_ble_eq_true rfl) rfl rfl dX9_volumeIn_38 ?_ hkR
    refine z_aload_n h 0 rfl dX9_volumeIn_41 ?_
    refine z_iload_n h 2 rfl dX9_volumeIn_42 ?_
    refine z_wV h (As := [.int (nI d)]) (st := []) (ws2 := zCW (zy E) q a g (trT g (cpSt t g) d) c o n S) (r := some (.int (trS g (cpSt t g) d))) 1 (c_X9_meltTrial q a g (cpSt t g) c o n S d (by omega) (okH_cp hg)) gX9_volumeIn_X9_meltTrial (q0 := 0) (ci := 7) (by decide +kernel) rfl rfl rfl ⟨by decide, by decide⟩ (Nat.le_of_ble_eq_true rfl) rfl rfl dX9_volumeIn_43 ?_ hkR
    refine z_pop h dX9_volumeIn_46 rfl ?_
    refine z_aload_n h 0 rfl dX9_volumeIn_47 ?_
    refine z_get h 0 7 4 (v := .ref (q 17)) rfl rfl iX9_volumeIn_X9 (by decide) (List.mem_of_getElem? (i := 3) (by decide +kernel)) rfl rfl dX9_volumeIn_48 ?_
    refine z_iload_n h 1 rfl dX9_volumeIn_51 ?_
    refine z_wV h (As := [.int (nI s)]) (st := []) (ws2 := zCW (zy E) q a g (trT g (cpSt t g) d) c o n S) (r := some (.int (vSum ((trT g (cpSt t g) d) 7) (s * 6) (zh (trT g (cpSt t g) d) s)))) 1 (l_tri (c_X4_volumeOf (fun i => q (17 + i)) (trT g (cpSt t g) d) s (by omega) (okH_tr (okH_cp hg) d))) gX9_volumeIn_X4_volumeOf (q0 := 17) (ci := 3) (by decide +kernel) rfl rfl rfl ⟨by decide, by decide⟩ (Nat.le_of_ble_eq_true rfl) rfl rfl dX9_volumeIn_52 ?_ hkR
    exact z_iret h hf rfl rfl rfl dX9_volumeIn_55
  · exact absurd c_14 h1

theorem iX9_goneIn_X5 : ∀ w ∈ u_ws RX5 TX5 10, w ∈ wsX9_goneIn := by decide +kernel
theorem iX9_goneIn_X9 : ∀ w ∈ u_ws RX9 TX9 5, w ∈ wsX9_goneIn := by decide +kernel
set_option maxHeartbeats 4000000 in
set_option maxRecDepth 100000 in
/-- X9_goneIn -/
theorem c_X9_goneIn_0 {l : Launch} {y : zY} {D : va_G} (q : Nat → Nat) (a : Nat → Nat → Nat) (g t c o n : Nat → Nat → Int32) (S : Nat → Nat → Nat → Int32) (s : Nat) (h0 : siC (nI s) = nI 0) (h1 : hbl g (nI s) (nI 0) = 0) : zM l y D yX9_goneIn wsX9_goneIn 4 122 [.ref (q 0), .int (nI s)] (zCW y q a g t c o n S) (zCW y q a g t c o n S) (some (.int (-1))) := by
  refine z_start (own := RX9) (cc := cX9_goneIn) (maxL := 3) (ret := (some .int)) rfl (by decide +kernel) rfl (Nat.le_of_ble_eq_true rfl) (zCW_fst _ _ _ _ _ _ _ _ _ _ _ _ _ _ _) ?_
  intro E hEl hEy hED h hf
  subst hEl hEy hED
  have hkR : 0 ≤ E.2.2.2.2.2.1.cells ∧ 0 ≤ E.2.2.2.2.2.1.slots := ⟨Nat.zero_le _, Nat.zero_le _⟩
  refine z_cast (lv := [(0, .ref (q 0)), (1, .int (nI s))]) (ws := (zCW (zy E) q a g t c o n S)) (st := []) ?_ rfl rfl rfl
  refine z_iload_n h 1 rfl dX9_goneIn_0 ?_
  refine z_callS h (As := [.int (nI s)]) (st := []) (ws2 := zCW (zy E) q a g t c o n S) (B := []) (B' := []) (r := some (.int (siC (nI s)))) 1 (c_X9_siteRefusal (nI s)) gX9_goneIn_X9_siteRefusal (by decide +kernel) rfl ⟨by decide, by decide⟩ [] rfl (by decide) rfl (Nat.le_of_ble_eq_true rfl) rfl rfl dX9_goneIn_1 ?_ hkR
  refine z_top (nI 0) h0 ?_
  refine z_callS h (As := [.int (nI 0)]) (st := []) (ws2 := zCW (zy E) q a g t c o n S) (B := []) (B' := []) (r := none) 1 c_X9_throwFor_0 gX9_goneIn_X9_throwFor (by decide +kernel) rfl ⟨by decide, by decide⟩ [] rfl (by decide) rfl (Nat.le_of_ble_eq_true rfl) rfl rfl dX9_goneIn_4 ?_ hkR
  refine z_aload_n h 0 rfl dX9_goneIn_7 ?_
  refine z_get h 0 7 0 (v := .ref (q 1)) rfl rfl iX9_goneIn_X9 (by decide) (List.mem_of_getElem? (i := 1) (by decide +kernel)) rfl rfl dX9_goneIn_8 ?_
  refine z_get h 1 4 7 (v := .ref (q 3)) rfl rfl iX9_goneIn_X5 (by decide) (List.mem_of_getElem? (i := 2) (by decide +kernel)) rfl rfl dX9_goneIn_11 ?_
  refine z_iload_n h 1 rfl dX9_goneIn_14 ?_
  refine z_iconst h (nI 0) (by decide +kernel) dX9_goneIn_15 ?_
  refine z_wV h (As := [.int (nI s), .int (nI 0)]) (st := []) (ws2 := zCW (zy E) q a g t c o n S) (r := some (.int (hbl g (nI s) (nI 0)))) 2 (l_nst (c_X4_hasBlock (fun i => q (3 + i)) g (nI s) (nI 0))) gX9_goneIn_X4_hasBlock (q0 := 3) (ci := 3) (by decide +kernel) rfl rfl rfl ⟨by decide, by decide⟩ (Nat.le_of_ble_eq_true rfl) rfl rfl dX9_goneIn_16 ?_ hkR
  refine z_if_ne h 24 dX9_goneIn_19 (by decide) (fun c_19 => ?_) (fun c_19 => ?_)
  · exact absurd h1 c_19
  · refine z_iconst h ((-1)) (by decide +kernel) dX9_goneIn_22 ?_
    exact z_iret h hf rfl rfl rfl dX9_goneIn_23

set_option maxHeartbeats 4000000 in
set_option maxRecDepth 100000 in
/-- X9_goneIn -/
theorem c_X9_goneIn_1 {l : Launch} {y : zY} {D : va_G} (q : Nat → Nat) (a : Nat → Nat → Nat) (g t c o n : Nat → Nat → Int32) (S : Nat → Nat → Nat → Int32) (s : Nat) (hg : okH g) (h0 : siC (nI s) = nI 0) (h1 : ¬ hbl g (nI s) (nI 0) = 0) : zM l y D yX9_goneIn wsX9_goneIn 4 122 [.ref (q 0), .int (nI s)] (zCW y q a g t c o n S) (zCW y q a g (gnT g (cpSt t g) s 200 0) c o n S) (some (.int (gnR g (cpSt t g) s 200 0))) := by
  refine z_start (own := RX9) (cc := cX9_goneIn) (maxL := 3) (ret := (some .int)) rfl (by decide +kernel) rfl (Nat.le_of_ble_eq_true rfl) (zCW_fst _ _ _ _ _ _ _ _ _ _ _ _ _ _ _) ?_
  intro E hEl hEy hED h hf
  subst hEl hEy hED
  have hkR : 0 ≤ E.2.2.2.2.2.1.cells ∧ 0 ≤ E.2.2.2.2.2.1.slots := ⟨Nat.zero_le _, Nat.zero_le _⟩
  refine z_cast (lv := [(0, .ref (q 0)), (1, .int (nI s))]) (ws := (zCW (zy E) q a g t c o n S)) (st := []) ?_ rfl rfl rfl
  refine z_iload_n h 1 rfl dX9_goneIn_0 ?_
  refine z_callS h (As := [.int (nI s)]) (st := []) (ws2 := zCW (zy E) q a g t c o n S) (B := []) (B' := []) (r := some (.int (siC (nI s)))) 1 (c_X9_siteRefusal (nI s)) gX9_goneIn_X9_siteRefusal (by decide +kernel) rfl ⟨by decide, by decide⟩ [] rfl (by decide) rfl (Nat.le_of_ble_eq_true rfl) rfl rfl dX9_goneIn_1 ?_ hkR
  refine z_top (nI 0) h0 ?_
  refine z_callS h (As := [.int (nI 0)]) (st := []) (ws2 := zCW (zy E) q a g t c o n S) (B := []) (B' := []) (r := none) 1 c_X9_throwFor_0 gX9_goneIn_X9_throwFor (by decide +kernel) rfl ⟨by decide, by decide⟩ [] rfl (by decide) rfl (Nat.le_of_ble_eq_true rfl) rfl rfl dX9_goneIn_4 ?_ hkR
  refine z_aload_n h 0 rfl dX9_goneIn_7 ?_
  refine z_get h 0 7 0 (v := .ref (q 1)) rfl rfl iX9_goneIn_X9 (by decide) (List.mem_of_getElem? (i := 1) (by decide +kernel)) rfl rfl dX9_goneIn_8 ?_
  refine z_get h 1 4 7 (v := .ref (q 3)) rfl rfl iX9_goneIn_X5 (by decide) (List.mem_of_getElem? (i := 2) (by decide +kernel)) rfl rfl dX9_goneIn_11 ?_
  refine z_iload_n h 1 rfl dX9_goneIn_14 ?_
  refine z_iconst h (nI 0) (by decide +kernel) dX9_goneIn_15 ?_
  refine z_wV h (As := [.int (nI s), .int (nI 0)]) (st := []) (ws2 := zCW (zy E) q a g t c o n S) (r := some (.int (hbl g (nI s) (nI 0)))) 2 (l_nst (c_X4_hasBlock (fun i => q (3 + i)) g (nI s) (nI 0))) gX9_goneIn_X4_hasBlock (q0 := 3) (ci := 3) (by decide +kernel) rfl rfl rfl ⟨by decide, by decide⟩ (Nat.le_of_ble_eq_true rfl) rfl rfl dX9_goneIn_16 ?_ hkR
  refine z_if_ne h 24 dX9_goneIn_19 (by decide) (fun c_19 => ?_) (fun c_19 => ?_)
  · refine z_aload_n h 0 rfl dX9_goneIn_24 ?_
    refine z_get h 0 7 4 (v := .ref (q 17)) rfl rfl iX9_goneIn_X9 (by decide) (List.mem_of_getElem? (i := 3) (by decide +kernel)) rfl rfl dX9_goneIn_25 ?_
    refine z_aload_n h 0 rfl dX9_goneIn_28 ?_
    refine z_get h 0 7 0 (v := .ref (q 1)) rfl rfl iX9_goneIn_X9 (by decide) (List.mem_of_getElem? (i := 1) (by decide +kernel)) rfl rfl dX9_goneIn_29 ?_
    refine z_get h 1 4 7 (v := .ref (q 3)) rfl rfl iX9_goneIn_X5 (by decide) (List.mem_of_getElem? (i := 2) (by decide +kernel)) rfl rfl dX9_goneIn_32 ?_
    refine z_wV h (As := [.ref (q 3)]) (st := []) (ws2 := zCW (zy E) q a g (cpSt t g) c o n S) (r := none) 1 (l_cpt (c_X4_copyFrom (fun i => q (17 + i)) t (fun i => q (3 + i)) g)) gX9_goneIn_X4_copyFrom (q0 := 17) (ci := 3) (by decide +kernel) rfl rfl rfl ⟨by decide, by decide⟩ (Nat.le_of_ble_eq_true rfl) rfl rfl dX9_goneIn_35 ?_ hkR
    refine z_iconst h (nI 1) (by decide +kernel) dX9_goneIn_38 ?_
    refine z_istore_n h (by decide) (lv' := [(2, .int (nI 1)), (0, .ref (q 0)), (1, .int (nI s))]) rfl dX9_goneIn_39 ?_
    have lp_40 : ∀ (d_40 i : Nat), 200 < i + d_40 → i ≤ 200 → (gnR g (cpSt t g) s (200 - i) i = gnR g (cpSt t g) s 200 0 ∧ gnT g (cpSt t g) s (200 - i) i = gnT g (cpSt t g) s 200 0) → Z E 0 0 [(0, .ref (q 0)), (1, .int (nI s)), (2, .int (nI (i + 1)))] (zCW (zy E) q a g (trT g (cpSt t g) i) c o n S) 40 [] := by
      intro d_40
      induction d_40 with
      | zero => intro i  q1 q2; omega
      | succ d_40 ih_40 =>
        intro i  q1_40 q2_40 hr
        refine z_iload_n h 2 rfl dX9_goneIn_40 ?_
        refine z_sipush h (nI 200) (by decide +kernel) dX9_goneIn_41 ?_
        refine z_icmp_gt h 89 dX9_goneIn_44 (by decide) (fun c_44 => ?_) (fun c_44 => ?_)
        · have k_44 : 200 < (i + 1) := (nI_ltI (by omega) (by omega)).mp c_44
          obtain rfl : i = 200 := by omega
          refine z_iconst h ((-1)) (by decide +kernel) dX9_goneIn_89 ?_
          exact z_iret h hf rfl (by rw [← hr.1]; rfl) (by rw [← hr.2]; rfl) dX9_goneIn_90
        · have k_44 : ¬ (200 < (i + 1)) := fun q => c_44 ((nI_ltI (by omega) (by omega)).mpr q)
          refine z_aload_n h 0 rfl dX9_goneIn_47 ?_
          refine z_get h 0 7 4 (v := .ref (q 17)) rfl rfl iX9_goneIn_X9 (by decide) (List.mem_of_getElem? (i := 3) (by decide +kernel)) rfl rfl dX9_goneIn_48 ?_
          refine z_aload_n h 0 rfl dX9_goneIn_51 ?_
          refine z_get h 0 7 0 (v := .ref (q 1)) rfl rfl iX9_goneIn_X9 (by decide) (List.mem_of_getElem? (i := 1) (by decide +kernel)) rfl rfl dX9_goneIn_52 ?_
          refine z_get h 1 4 4 (v := .int ((g 0) 4)) rfl rfl iX9_goneIn_X5 (by decide) (List.mem_of_getElem? (i := 4) (by decide +kernel)) rfl rfl dX9_goneIn_55 ?_
          refine z_iload_n h 2 rfl dX9_goneIn_58 ?_
          refine z_iadd h dX9_goneIn_59 ?_
          refine z_iconst h (nI 1) (by decide +kernel) dX9_goneIn_60 ?_
          refine z_isub h dX9_goneIn_61 ?_
          refine z_top (g 0 4 + nI i) (hrI_1 g i) ?_
          refine z_bipush h (nI 12) (by decide +kernel) dX9_goneIn_62 ?_
          refine z_irem h dX9_goneIn_64 (by decide) ?_
          refine z_top (hrI g i) rfl ?_
          refine z_wV h (As := [.int (hrI g i)]) (st := []) (ws2 := zCW (zy E) q a g (mlG (trT g (cpSt t g) i) (hrI g i)) c o n S) (r := some (.int (mlS (trT g (cpSt t g) i) (hrI g i)))) 1 (l_tri (c_X4_melt (fun i => q (17 + i)) (trT g (cpSt t g) i) (hrI g i) (okH_tr (okH_cp hg) i))) gX9_goneIn_X4_melt (q0 := 17) (ci := 3) (by decide +kernel) rfl rfl rfl ⟨by decide, by decide⟩ (Nat.le_of_ble_eq_true rfl) rfl rfl dX9_goneIn_65 ?_ hkR
          refine z_pop h dX9_goneIn_68 rfl ?_
          refine z_aload_n h 0 rfl dX9_goneIn_69 ?_
          refine z_get h 0 7 4 (v := .ref (q 17)) rfl rfl iX9_goneIn_X9 (by decide) (List.mem_of_getElem? (i := 3) (by decide +kernel)) rfl rfl dX9_goneIn_70 ?_
          refine z_iload_n h 1 rfl dX9_goneIn_73 ?_
          refine z_iconst h (nI 0) (by decide +kernel) dX9_goneIn_74 ?_
          refine z_wV h (As := [.int (nI s), .int (nI 0)]) (st := []) (ws2 := zCW (zy E) q a g (mlG (trT g (cpSt t g) i) (hrI g i)) c o n S) (r := some (.int (hbl (mlG (trT g (cpSt t g) i) (hrI g i)) (nI s) (nI 0)))) 2 (l_tri (c_X4_hasBlock (fun i => q (17 + i)) (mlG (trT g (cpSt t g) i) (hrI g i)) (nI s) (nI 0))) gX9_goneIn_X4_hasBlock (q0 := 17) (ci := 3) (by decide +kernel) rfl rfl rfl ⟨by decide, by decide⟩ (Nat.le_of_ble_eq_true rfl) rfl rfl dX9_goneIn_75 ?_ hkR
          refine z_if_ne h 83 dX9_goneIn_78 (by decide) (fun c_78 => ?_) (fun c_78 => ?_)
          · have hn := gn_1 rfl (by omega) hr.1 hr.2 c_78
            refine z_iinc h 2 (nI (i + 1 + 1)) rfl z_i1 (by decide) (lv' := [(2, .int (nI (i + 1 + 1))), (0, .ref (q 0)), (1, .int (nI s))]) rfl dX9_goneIn_83 ?_
            refine z_goto h 40 dX9_goneIn_86 (by decide) ?_
            refine z_sub [1, 2, 0] (lv' := [(0, .ref (q 0)), (1, .int (nI s)), (2, .int (nI (i + 1 + 1)))]) rfl ?_
            exact z_cast (ih_40 (i + 1) (by omega) (by omega) hn) rfl rfl rfl
          · refine z_iload_n h 2 rfl dX9_goneIn_81 ?_
            have hn := gn_0 rfl (by omega) hr.1 hr.2 c_78
            exact z_iret h hf rfl (by rw [hn.1]) (by rw [hn.2] <;> rfl) dX9_goneIn_82
    refine z_sub [1, 2, 0] (lv' := [(0, .ref (q 0)), (1, .int (nI s)), (2, .int (nI 1))]) rfl ?_
    exact z_cast (lp_40 (200 + 1) 0 (by omega) (by omega) (⟨rfl, rfl⟩)) rfl rfl rfl
  · exact absurd c_19 h1

theorem iX9_bestWall_X4 : ∀ w ∈ u_ws RX4 TX4 7, w ∈ wsX9_bestWall := by decide +kernel
theorem iX9_bestWall_X5 : ∀ w ∈ u_ws RX5 TX5 10, w ∈ wsX9_bestWall := by decide +kernel
theorem iX9_bestWall_X9 : ∀ w ∈ u_ws RX9 TX9 5, w ∈ wsX9_bestWall := by decide +kernel
set_option maxHeartbeats 4000000 in
set_option maxRecDepth 100000 in
/-- X9_bestWall -/
theorem c_X9_bestWall {l : Launch} {y : zY} {D : va_G} (q : Nat → Nat) (a : Nat → Nat → Nat) (g t c o n : Nat → Nat → Int32) (S : Nat → Nat → Nat → Int32) (hg : okH g) : zM l y D yX9_bestWall wsX9_bestWall 5 122 [.ref (q 0)] (zCW y q a g t c o n S) (zCW y q a g (bwI g t 8).2.2 c o n S) (some (.int ((bwI g t 8).1))) := by
  refine z_start (own := RX9) (cc := cX9_bestWall) (maxL := 6) (ret := (some .int)) rfl (by decide +kernel) rfl (Nat.le_of_ble_eq_true rfl) (zCW_fst _ _ _ _ _ _ _ _ _ _ _ _ _ _ _) ?_
  intro E hEl hEy hED h hf
  subst hEl hEy hED
  have hkR : 0 ≤ E.2.2.2.2.2.1.cells ∧ 0 ≤ E.2.2.2.2.2.1.slots := ⟨Nat.zero_le _, Nat.zero_le _⟩
  refine z_cast (lv := [(0, .ref (q 0))]) (ws := (zCW (zy E) q a g t c o n S)) (st := []) ?_ rfl rfl rfl
  refine z_aload_n h 0 rfl dX9_bestWall_0 ?_
  refine z_get h 0 7 4 (v := .ref (q 17)) rfl rfl iX9_bestWall_X9 (by decide) (List.mem_of_getElem? (i := 1) (by decide +kernel)) rfl rfl dX9_bestWall_1 ?_
  refine z_aload_n h 0 rfl dX9_bestWall_4 ?_
  refine z_get h 0 7 0 (v := .ref (q 1)) rfl rfl iX9_bestWall_X9 (by decide) (List.mem_of_getElem? (i := 2) (by decide +kernel)) rfl rfl dX9_bestWall_5 ?_
  refine z_get h 1 4 7 (v := .ref (q 3)) rfl rfl iX9_bestWall_X5 (by decide) (List.mem_of_getElem? (i := 3) (by decide +kernel)) rfl rfl dX9_bestWall_8 ?_
  refine z_wV h (As := [.ref (q 3)]) (st := []) (ws2 := zCW (zy E) q a g (cpSt t g) c o n S) (r := none) 1 (l_cpt (c_X4_copyFrom (fun i => q (17 + i)) t (fun i => q (3 + i)) g)) gX9_bestWall_X4_copyFrom (q0 := 17) (ci := 3) (by decide +kernel) rfl rfl rfl ⟨by decide, by decide⟩ (Nat.le_of_ble_eq_true rfl) rfl rfl dX9_bestWall_11 ?_ hkR
  refine z_aload_n h 0 rfl dX9_bestWall_14 ?_
  refine z_bipush h (nI 12) (by decide +kernel) dX9_bestWall_15 ?_
  refine z_wV h (As := [.int (nI 12)]) (st := []) (ws2 := zCW (zy E) q a g (trT g (cpSt t g) 12) c o n S) (r := some (.int (trS g (cpSt t g) 12))) 1 (c_X9_meltTrial q a g (cpSt t g) c o n S 12 (by omega) (okH_cp hg)) gX9_bestWall_X9_meltTrial (q0 := 0) (ci := 7) (by decide +kernel) rfl rfl rfl ⟨by decide, by decide⟩ (Nat.le_of_ble_eq_true rfl) rfl rfl dX9_bestWall_17 ?_ hkR
  refine z_istore_n h (by decide) (lv' := [(1, .int (trS g (cpSt t g) 12)), (0, .ref (q 0))]) rfl dX9_bestWall_20 ?_
  refine z_iconst h ((-1)) (by decide +kernel) dX9_bestWall_21 ?_
  refine z_istore_n h (by decide) (lv' := [(2, .int (-1)), (1, .int (trS g (cpSt t g) 12)), (0, .ref (q 0))]) rfl dX9_bestWall_22 ?_
  refine z_iconst h (nI 0) (by decide +kernel) dX9_bestWall_23 ?_
  refine z_istore_n h (by decide) (lv' := [(3, .int (nI 0)), (2, .int (-1)), (1, .int (trS g (cpSt t g) 12)), (0, .ref (q 0))]) rfl dX9_bestWall_24 ?_
  refine z_iconst h (nI 0) (by decide +kernel) dX9_bestWall_25 ?_
  refine z_istore h (by decide) (lv' := [(4, .int (nI 0)), (3, .int (nI 0)), (2, .int (-1)), (1, .int (trS g (cpSt t g) 12)), (0, .ref (q 0))]) rfl dX9_bestWall_26 ?_
  have lp_28 : ∀ (d_28 i : Nat), 8 < i + d_28 → i ≤ 8 → Z E 0 0 [(0, .ref (q 0)), (1, .int (trS g (cpSt t g) 12)), (2, .int ((bwI g t i).1)), (3, .int ((bwI g t i).2.1)), (4, .int (nI i))] (zCW (zy E) q a g ((bwI g t i).2.2) c o n S) 28 [] := by
    intro d_28
    induction d_28 with
    | zero => intro i  q1 q2; omega
    | succ d_28 ih_28 =>
      intro i  q1_28 q2_28 
      refine z_iload h 4 rfl dX9_bestWall_28 ?_
      refine z_bipush h (nI 8) (by decide +kernel) dX9_bestWall_30 ?_
      refine z_icmp_ge h 104 dX9_bestWall_32 (by decide) (fun c_32 => ?_) (fun c_32 => ?_)
      · have k_32 : 8 ≤ i := (nI_leI (by omega) (by omega)).mp c_32
        obtain rfl : i = 8 := by omega
        refine z_iload_n h 2 rfl dX9_bestWall_104 ?_
        exact z_iret h hf rfl rfl rfl dX9_bestWall_105
      · have k_32 : ¬ (8 ≤ i) := fun q => c_32 ((nI_leI (by omega) (by omega)).mpr q)
        refine z_aload_n h 0 rfl dX9_bestWall_35 ?_
        refine z_get h 0 7 0 (v := .ref (q 1)) rfl rfl iX9_bestWall_X9 (by decide) (List.mem_of_getElem? (i := 2) (by decide +kernel)) rfl rfl dX9_bestWall_36 ?_
        refine z_get h 1 4 7 (v := .ref (q 3)) rfl rfl iX9_bestWall_X5 (by decide) (List.mem_of_getElem? (i := 3) (by decide +kernel)) rfl rfl dX9_bestWall_39 ?_
        refine z_get h 3 3 1 (v := .ref (q 5)) rfl rfl iX9_bestWall_X4 (by decide) (List.mem_of_getElem? (i := 4) (by decide +kernel)) rfl rfl dX9_bestWall_42 ?_
        refine z_iload h 4 rfl dX9_bestWall_45 ?_
        refine z_iald h 5 i (f := g 3) rfl rfl rfl (by omega) (by decide) dX9_bestWall_47 ?_
        refine z_if_ne h 98 dX9_bestWall_48 (by decide) (fun c_48 => ?_) (fun c_48 => ?_)
        · refine z_iinc h 4 (nI (i + 1)) rfl z_i1 (by decide) (lv' := [(4, .int (nI (i + 1))), (0, .ref (q 0)), (1, .int (trS g (cpSt t g) 12)), (2, .int ((bwI g t i).1)), (3, .int ((bwI g t i).2.1))]) rfl dX9_bestWall_98 ?_
          refine z_goto h 28 dX9_bestWall_101 (by decide) ?_
          refine z_sub [1, 2, 3, 4, 0] (lv' := [(0, .ref (q 0)), (1, .int (trS g (cpSt t g) 12)), (2, .int ((bwI g t i).1)), (3, .int ((bwI g t i).2.1)), (4, .int (nI (i + 1)))]) rfl ?_
          exact z_cast (ih_28 (i + 1) (by omega) (by omega)) (by rw [bwI_0 c_48] <;> rfl) (by rw [bwI_0 c_48] <;> rfl) rfl
        · refine z_aload_n h 0 rfl dX9_bestWall_51 ?_
          refine z_get h 0 7 4 (v := .ref (q 17)) rfl rfl iX9_bestWall_X9 (by decide) (List.mem_of_getElem? (i := 1) (by decide +kernel)) rfl rfl dX9_bestWall_52 ?_
          refine z_aload_n h 0 rfl dX9_bestWall_55 ?_
          refine z_get h 0 7 0 (v := .ref (q 1)) rfl rfl iX9_bestWall_X9 (by decide) (List.mem_of_getElem? (i := 2) (by decide +kernel)) rfl rfl dX9_bestWall_56 ?_
          refine z_get h 1 4 7 (v := .ref (q 3)) rfl rfl iX9_bestWall_X5 (by decide) (List.mem_of_getElem? (i := 3) (by decide +kernel)) rfl rfl dX9_bestWall_59 ?_
          refine z_wV h (As := [.ref (q 3)]) (st := []) (ws2 := zCW (zy E) q a g (cpSt ((bwI g t i).2.2) g) c o n S) (r := none) 1 (l_cpt (c_X4_copyFrom (fun i => q (17 + i)) ((bwI g t i).2.2) (fun i => q (3 + i)) g)) gX9_bestWall_X4_copyFrom (q0 := 17) (ci := 3) (by decide +kernel) rfl rfl rfl ⟨by decide, by decide⟩ (Nat.le_of_ble_eq_true rfl) rfl rfl dX9_bestWall_62 ?_ hkR
          refine z_aload_n h 0 rfl dX9_bestWall_65 ?_
          refine z_get h 0 7 4 (v := .ref (q 17)) rfl rfl iX9_bestWall_X9 (by decide) (List.mem_of_getElem? (i := 1) (by decide +kernel)) rfl rfl dX9_bestWall_66 ?_
          refine z_get h 17 3 1 (v := .ref (q 19)) rfl rfl iX9_bestWall_X4 (by decide) (List.mem_of_getElem? (i := 4) (by decide +kernel)) rfl rfl dX9_bestWall_69 ?_
          refine z_iload h 4 rfl dX9_bestWall_72 ?_
          refine z_iconst h (nI 1) (by decide +kernel) dX9_bestWall_74 ?_
          refine z_iast h 19 i (nI 1) (ws' := zCW (zy E) q a g (va_up (cpSt ((bwI g t i).2.2) g) 3 (upd (cpSt ((bwI g t i).2.2) g 3) i (nI 1))) c o n S) rfl rfl rfl rfl (by omega) (by decide) rfl dX9_bestWall_75 ?_
          refine z_iload_n h 1 rfl dX9_bestWall_76 ?_
          refine z_aload_n h 0 rfl dX9_bestWall_77 ?_
          refine z_bipush h (nI 12) (by decide +kernel) dX9_bestWall_78 ?_
          refine z_wV h (As := [.int (nI 12)]) (st := [.int (trS g (cpSt t g) 12)]) (ws2 := zCW (zy E) q a g (trT g (va_up (cpSt ((bwI g t i).2.2) g) 3 (upd (cpSt ((bwI g t i).2.2) g 3) i (nI 1))) 12) c o n S) (r := some (.int (trS g (va_up (cpSt ((bwI g t i).2.2) g) 3 (upd (cpSt ((bwI g t i).2.2) g 3) i (nI 1))) 12))) 1 (c_X9_meltTrial q a g (va_up (cpSt ((bwI g t i).2.2) g) 3 (upd (cpSt ((bwI g t i).2.2) g 3) i (nI 1))) c o n S 12 (by omega) (okH_bw (t := (bwI g t i).2.2) hg i)) gX9_bestWall_X9_meltTrial (q0 := 0) (ci := 7) (by decide +kernel) rfl rfl rfl ⟨by decide, by decide⟩ (Nat.le_of_ble_eq_true rfl) rfl rfl dX9_bestWall_80 ?_ hkR
          refine z_isub h dX9_bestWall_83 ?_
          refine z_istore h (by decide) (lv' := [(5, .int ((trS g (cpSt t g) 12) - (trS g (va_up (cpSt ((bwI g t i).2.2) g) 3 (upd (cpSt ((bwI g t i).2.2) g 3) i (nI 1))) 12))), (0, .ref (q 0)), (1, .int (trS g (cpSt t g) 12)), (2, .int ((bwI g t i).1)), (3, .int ((bwI g t i).2.1)), (4, .int (nI i))]) rfl dX9_bestWall_84 ?_
          refine z_iload h 0 rfl dX9_bestWall_86 ?_
          refine z_iload_n h 4 rfl dX9_bestWall_88 ?_
          refine z_icmp_le h 98 dX9_bestWall_89 (by decide) (fun c_89 => ?_) (fun c_89 => ?_)
          · refine z_iinc h 5 (nI (i + 1)) rfl z_i1 (by decide) (lv' := [(4, .int (nI (i + 1))), (5, .int ((trS g (cpSt t g) 12) - (trS g (va_up (cpSt ((bwI g t i).2.2) g) 3 (upd (cpSt ((bwI g t i).2.2) g 3) i (nI 1))) 12))), (0, .ref (q 0)), (1, .int (trS g (cpSt t g) 12)), (2, .int ((bwI g t i).1)), (3, .int ((bwI g t i).2.1))]) rfl dX9_bestWall_98 ?_
            refine z_goto h 28 dX9_bestWall_101 (by decide) ?_
            refine z_sub [2, 3, 4, 5, 0] (lv' := [(0, .ref (q 0)), (1, .int (trS g (cpSt t g) 12)), (2, .int ((bwI g t i).1)), (3, .int ((bwI g t i).2.1)), (4, .int (nI (i + 1)))]) rfl ?_
            exact z_cast (ih_28 (i + 1) (by omega) (by omega)) (by rw [bwI_1 c_48 c_89] <;> rfl) (by rw [bwI_1 c_48 c_89] <;> rfl) rfl
          · refine z_iload h 0 rfl dX9_bestWall_92 ?_
            refine z_istore_n h (by decide) (lv' := [(3, .int ((trS g (cpSt t g) 12) - (trS g (va_up (cpSt ((bwI g t i).2.2) g) 3 (upd (cpSt ((bwI g t i).2.2) g 3) i (nI 1))) 12))), (5, .int ((trS g (cpSt t g) 12) - (trS g (va_up (cpSt ((bwI g t i).2.2) g) 3 (upd (cpSt ((bwI g t i).2.2) g 3) i (nI 1))) 12))), (0, .ref (q 0)), (1, .int (trS g (cpSt t g) 12)), (2, .int ((bwI g t i).1)), (4, .int (nI i))]) rfl dX9_bestWall_94 ?_
            refine z_iload h 5 rfl dX9_bestWall_95 ?_
            refine z_istore_n h (by decide) (lv' := [(2, .int (nI i)), (3, .int ((trS g (cpSt t g) 12) - (trS g (va_up (cpSt ((bwI g t i).2.2) g) 3 (upd (cpSt ((bwI g t i).2.2) g 3) i (nI 1))) 12))), (5, .int ((trS g (cpSt t g) 12) - (trS g (va_up (cpSt ((bwI g t i).2.2) g) 3 (upd (cpSt ((bwI g t i).2.2) g 3) i (nI 1))) 12))), (0, .ref (q 0)), (1, .int (trS g (cpSt t g) 12)), (4, .int (nI i))]) rfl dX9_bestWall_97 ?_
            refine z_iinc h 5 (nI (i + 1)) rfl z_i1 (by decide) (lv' := [(4, .int (nI (i + 1))), (2, .int (nI i)), (3, .int ((trS g (cpSt t g) 12) - (trS g (va_up (cpSt ((bwI g t i).2.2) g) 3 (upd (cpSt ((bwI g t i).2.2) g 3) i (nI 1))) 12))), (5, .int ((trS g (cpSt t g) 12) - (trS g (va_up (cpSt ((bwI g t i).2.2) g) 3 (upd (cpSt ((bwI g t i).2.2) g 3) i (nI 1))) 12))), (0, .ref (q 0)), (1, .int (trS g (cpSt t g) 12))]) rfl dX9_bestWall_98 ?_
            refine z_goto h 28 dX9_bestWall_101 (by decide) ?_
            refine z_sub [4, 5, 1, 2, 0] (lv' := [(0, .ref (q 0)), (1, .int (trS g (cpSt t g) 12)), (2, .int (nI i)), (3, .int ((trS g (cpSt t g) 12) - (trS g (va_up (cpSt ((bwI g t i).2.2) g) 3 (upd (cpSt ((bwI g t i).2.2) g 3) i (nI 1))) 12))), (4, .int (nI (i + 1)))]) rfl ?_
            exact z_cast (ih_28 (i + 1) (by omega) (by omega)) (by rw [bwI_2 c_48 c_89] <;> rfl) (by rw [bwI_2 c_48 c_89] <;> rfl) rfl
  refine z_sub [4, 3, 2, 1, 0] (lv' := [(0, .ref (q 0)), (1, .int (trS g (cpSt t g) 12)), (2, .int (-1)), (3, .int (nI 0)), (4, .int (nI 0))]) rfl ?_
  exact z_cast (lp_28 (8 + 1) 0 (by omega) (by omega)) rfl rfl rfl

theorem iX9_undo_X7 : ∀ w ∈ u_ws RX7 TX7 3, w ∈ wsX9_undo := by decide +kernel
theorem iX9_undo_X9 : ∀ w ∈ u_ws RX9 TX9 5, w ∈ wsX9_undo := by decide +kernel
set_option maxHeartbeats 4000000 in
set_option maxRecDepth 100000 in
/-- X9_undo -/
theorem c_X9_undo {l : Launch} {y : zY} {D : va_G} (q : Nat → Nat) (a : Nat → Nat → Nat) (g t c o n : Nat → Nat → Int32) (S : Nat → Nat → Nat → Int32) (k : Nat) (hk4 : k < 4) (hn4 : n 0 1 = nI k) (h0 : ¬ n 0 0 = 0) : zM l y D yX9_undo wsX9_undo 5 164 [.ref (q 0)] (zCW y q a g t c o n S) (zCW y q a (cpSa g (S k)) t c o (poN n (tmN k)) S) (some (.int (poN n (tmN k) 0 0))) := by
  refine z_start (own := RX9) (cc := cX9_undo) (maxL := 1) (ret := (some .int)) rfl (by decide +kernel) rfl (Nat.le_of_ble_eq_true rfl) (zCW_fst _ _ _ _ _ _ _ _ _ _ _ _ _ _ _) ?_
  intro E hEl hEy hED h hf
  subst hEl hEy hED
  have hkR : 0 ≤ E.2.2.2.2.2.1.cells ∧ 0 ≤ E.2.2.2.2.2.1.slots := ⟨Nat.zero_le _, Nat.zero_le _⟩
  refine z_cast (lv := [(0, .ref (q 0))]) (ws := (zCW (zy E) q a g t c o n S)) (st := []) ?_ rfl rfl rfl
  refine z_aload_n h 0 rfl dX9_undo_0 ?_
  refine z_get h 0 7 1 (v := .ref (q 31)) rfl rfl iX9_undo_X9 (by decide) (List.mem_of_getElem? (i := 3) (by decide +kernel)) rfl rfl dX9_undo_1 ?_
  refine z_get h 31 6 0 (v := .int ((n 0) 0)) rfl rfl iX9_undo_X7 (by decide) (List.mem_of_getElem? (i := 4) (by decide +kernel)) rfl rfl dX9_undo_4 ?_
  refine z_if_ne h 21 dX9_undo_7 (by decide) (fun c_7 => ?_) (fun c_7 => ?_)
  · refine z_aload_n h 0 rfl dX9_undo_21 ?_
    refine z_get h 0 7 1 (v := .ref (q 31)) rfl rfl iX9_undo_X9 (by decide) (List.mem_of_getElem? (i := 3) (by decide +kernel)) rfl rfl dX9_undo_22 ?_
    refine z_aload_n h 0 rfl dX9_undo_25 ?_
    refine z_get h 0 7 0 (v := .ref (q 1)) rfl rfl iX9_undo_X9 (by decide) (List.mem_of_getElem? (i := 5) (by decide +kernel)) rfl rfl dX9_undo_26 ?_
    refine z_wV h (As := [.ref (q 1)]) (st := []) (ws2 := zCW (zy E) q a (cpSa g (S k)) t c o (poN n (tmN k)) S) (r := none) 1 (l_und (c_X7_pop (fun i => q (31 + i)) a n S (fun i => q (1 + i)) g k hk4 hn4)) gX9_undo_X7_pop (q0 := 31) (ci := 6) (by decide +kernel) rfl rfl rfl ⟨by decide, by decide⟩ (Nat.le_of_ble_eq_true rfl) rfl rfl dX9_undo_29 ?_ hkR
    refine z_aload_n h 0 rfl dX9_undo_32 ?_
    refine z_get h 0 7 1 (v := .ref (q 31)) rfl rfl iX9_undo_X9 (by decide) (List.mem_of_getElem? (i := 3) (by decide +kernel)) rfl rfl dX9_undo_33 ?_
    refine z_get h 31 6 0 (v := .int ((poN n (tmN k) 0) 0)) rfl rfl iX9_undo_X7 (by decide) (List.mem_of_getElem? (i := 4) (by decide +kernel)) rfl rfl dX9_undo_36 ?_
    exact z_iret h hf rfl rfl rfl dX9_undo_39
  · exact absurd c_7 h0


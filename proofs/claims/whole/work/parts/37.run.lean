/-! the class's runOrders -/
theorem okH_ad {g : Nat → Nat → Int32} (hg : okH g) {s : Nat} {k : Int32} (hlt : zh g s < 6) : okH (adG g s k) := by
  intro j hj
  have h1 := hg j hj
  by_cases e : j = s
  · subst e
    have e2 : adG g j k 2 j = nI (zh g j + 1) := if_pos rfl
    have e3 : zh (adG g j k) j = zh g j + 1 := by unfold zh; rw [e2]; exact nI_clamp (by unfold zh at hlt; omega)
    rw [e3]
    exact ⟨e2, by omega⟩
  · have e2 : adG g s k 2 j = g 2 j := if_neg e
    have e3 : zh (adG g s k) j = zh g j := by unfold zh; rw [e2]
    rw [e3, e2]
    exact h1
theorem okT_ta {g : Nat → Nat → Int32} {v : Int32} (hlt : zt g < 5) : okT (taG g v) := by
  have e2 : taG g v 0 6 = nI (zt g + 1) := rfl
  have e3 : zt (taG g v) = zt g + 1 := by unfold zt; rw [e2]; exact nI_clamp (by omega)
  unfold okT
  rw [e3]
  exact ⟨e2, by omega⟩
theorem co_ok {g o : Nat → Nat → Int32} (hg : okH g) (hgt : okT g) : ∀ w, w < 9 → orC g o w = 0 → okH (coF g o w) ∧ okT (coF g o w) :=
  w9 (by rw [orC_0, coF_0]; exact fun _ => ⟨hg, hgt⟩)
    (by rw [orC_1, coF_1]; exact fun _ => ⟨hg, hgt⟩)
    (by rw [orC_2, coF_2]; exact fun h => ⟨okH_ad (g := va_up g 1 (upd (g 1) (un (o 1 1)) (g 1 (un (o 1 1)) - nI 1))) hg (stC_ok hg (un_lt _) (un_lt _) h).2.2.2, hgt⟩)
    (by rw [orC_3, coF_3]; exact fun h => ⟨hg, okT_ta (toC_ok hgt h).2⟩)
    (by rw [orC_4, coF_4]; exact fun h => ⟨okH_dr (g := va_up (va_up (va_up (usG g (un (o 1 0)) (mtc (g 9 (un (o 1 0))) (o 1 3))) 0 (upd (g 0) 2 (g 0 2 + o 1 3))) 7 (upd (g 7) (un (o 1 1) * 6 + un (o 1 2)) (g 7 (un (o 1 1) * 6 + un (o 1 2)) - o 1 3))) 4 (upd (g 4) (un (o 1 1)) (g 4 (un (o 1 1)) + o 1 3))) hg (crC_ok hgt (un_lt _) (un_lt _) (un_lt _) h).2.1, hgt⟩)
    (by rw [orC_5, coF_5]; exact fun _ => ⟨hg, hgt⟩)
    (by rw [orC_6, coF_6]; exact fun _ => ok_ph hg hgt _ _)
    (by rw [orC_7, coF_7]; exact fun _ => ok_ph hg hgt _ _)
    (by rw [orC_8, coF_8]; exact fun _ => ⟨hg, hgt⟩)
theorem ro_ok {o : Nat → Nat → Int32} {m p : Nat} (h : ¬ roF o m p = 0) : roW (o 2) m p < 9 ∧ roG o m p 0 1 = nI (roW (o 2) m p) := by
  unfold roF at h
  by_cases q1 : m ≤ roS (o 2) m p
  · rw [if_pos q1] at h; exact absurd rfl h
  rw [if_neg q1] at h
  by_cases q2 : roW (o 2) m p = 9
  · rw [if_pos q2] at h; exact absurd rfl h
  have q3 : roW (o 2) m p ≤ 9 := wdC_le (o 2) (roS (o 2) m p) (roE (o 2) m p)
  unfold roG
  rw [if_neg q1, if_neg q2]
  exact ⟨by omega, rfl⟩
theorem roG_00 (o : Nat → Nat → Int32) (m p : Nat) : roG o m p 0 0 = o 0 0 := by
  unfold roG
  split
  · rfl
  · split <;> rfl
theorem ffR_00 (m : Nat) : ∀ k o p, ffR m k o p 0 0 = o 0 0
  | 0, o, p => rfl
  | k + 1, o, p => by
    unfold ffR
    split
    · exact roG_00 o m p
    · rw [ffR_00 m k, roG_00]
theorem ffO_00 (o : Nat → Nat → Int32) (m : Nat) : ffO o m 0 0 = o 0 0 := ffR_00 m 150 (rwO o) 0
def rnR (m : Nat) : Nat → (Nat → Nat → Int32) → (Nat → Nat → Int32) → Nat → Nat → (Nat → Nat → Int32) × (Nat → Nat → Int32) × Nat
  | 0, g, o, _, d => (g, o, d)
  | k + 1, g, o, p, d => if roF o m p = 0 then (g, roG o m p, d) else if orC g (roG o m p) (roW (o 2) m p) = 0 then rnR m k (coF g (roG o m p) (roW (o 2) m p)) (roG o m p) (roP o m p) (d + 1) else (g, roG o m p, d)
theorem rn_step {m t p d : Nat} {g o : Nat → Nat → Int32} {R : (Nat → Nat → Int32) × (Nat → Nat → Int32) × Nat} (ht : t < 150) (h : rnR m (150 - t) g o p d = R) : (roF o m p = 0 → R = (g, roG o m p, d)) ∧ (¬ roF o m p = 0 → ∀ w, roW (o 2) m p = w → (orC g (roG o m p) w = 0 → rnR m (150 - (t + 1)) (coF g (roG o m p) w) (roG o m p) (roP o m p) (d + 1) = R) ∧ (¬ orC g (roG o m p) w = 0 → R = (g, roG o m p, d))) := by
  subst h
  rw [show 150 - t = (150 - (t + 1)) + 1 by omega]
  refine ⟨fun c => if_pos c, fun c w hw => ?_⟩
  subst hw
  exact ⟨fun c2 => ((if_neg c).trans (if_pos c2)).symm, fun c2 => (if_neg c).trans (if_neg c2)⟩
theorem rn_end {m t p d : Nat} {g o : Nat → Nat → Int32} {R : (Nat → Nat → Int32) × (Nat → Nat → Int32) × Nat} (ht : t = 150) (h : rnR m (150 - t) g o p d = R) : R = (g, o, d) := by
  subst ht
  rw [Nat.sub_self] at h
  exact h.symm
def rnC (g o : Nat → Nat → Int32) (m : Nat) : (Nat → Nat → Int32) × (Nat → Nat → Int32) × Nat := rnR m 150 g (rwO (ffO o m)) 0 0
theorem rn_init (g o : Nat → Nat → Int32) (m : Nat) : rnR m (150 - 0) g (rwO (ffO o m)) 0 0 = rnC g o m := by
  rw [Nat.sub_zero]
  rfl
theorem iX9_runOrders_X3 : ∀ w ∈ u_ws RX3 TX3 6, w ∈ eRO := by decide +kernel
theorem iX9_runOrders_X9 : ∀ w ∈ u_ws RX9 TX9 5, w ∈ eRO := by decide +kernel
set_option maxHeartbeats 4000000 in
set_option maxRecDepth 100000 in
/-- runOrders 0 -/
theorem c_X9_runOrders_0 {l : Launch} {y : zY} {D : va_G} (q : Nat → Nat) (a : Nat → Nat → Nat) (g t c o n : Nat → Nat → Int32) (S : Nat → Nat → Nat → Int32) (m : Nat) (hm : o 0 0 = nI m) (hm1 : m ≤ 150) (hg : okH g) (hgt : okT g) (k : Nat) (hk4 : k < 4) (hn4 : n 0 1 = nI k) (h0 : ffO o m 0 3 = (-1)) : zM l y D yX9_runOrders eRO 8 178 [.ref (q 0)] (zCW y q a g t c o n S) (zCW y q a (rnC g o m).1 t c (rnC g o m).2.1 (puN n (tpN k)) (zSs S (tpN k) (cpSa (S (tpN k)) g))) (some (.int (nI ((rnC g o m).2.2)))) := by
  refine z_start (own := RX9) (cc := cX9_runOrders) (maxL := 4) (ret := (some .int)) rfl (by decide +kernel) rfl (Nat.le_of_ble_eq_true rfl) (zCW_fst _ _ _ _ _ _ _ _ _ _ _ _ _ _ _) ?_
  intro E hEl hEy hED h hf
  subst hEl hEy hED
  have hkR : 0 ≤ E.2.2.2.2.2.1.cells ∧ 0 ≤ E.2.2.2.2.2.1.slots := ⟨Nat.zero_le _, Nat.zero_le _⟩
  refine z_cast (lv := [(0, .ref (q 0))]) (ws := (zCW (zy E) q a g t c o n S)) (st := []) ?_ rfl rfl rfl
  refine z_aload_n h 0 rfl dX9_runOrders_0 ?_
  refine z_get h 0 7 2 (v := .ref (q 28)) rfl rfl iX9_runOrders_X9 (by decide) (List.mem_of_getElem? (i := 1) (by decide +kernel)) rfl rfl dX9_runOrders_1 ?_
  refine z_wV h (As := []) (st := []) (ws2 := zCW (zy E) q a g t c (ffO o m) n S) (r := some (.int (ffO o m 0 3))) 0 (l_ord (c_X3_firstFault (fun i => q (28 + i)) o m hm hm1)) egX9_runOrders_X3_firstFault (q0 := 28) (ci := 2) (by decide +kernel) rfl rfl rfl ⟨by decide, by decide⟩ (Nat.le_of_ble_eq_true rfl) rfl rfl dX9_runOrders_4 ?_ hkR
  refine z_istore_n h (by decide) (lv' := [(1, .int (ffO o m 0 3)), (0, .ref (q 0))]) rfl dX9_runOrders_7 ?_
  refine z_iload_n h 0 rfl dX9_runOrders_8 ?_
  refine z_iconst h ((-1)) (by decide +kernel) dX9_runOrders_9 ?_
  refine z_icmp_eq h 18 dX9_runOrders_10 (by decide) (fun c_10 => ?_) (fun c_10 => ?_)
  · refine z_aload_n h 1 rfl dX9_runOrders_18 ?_
    refine z_get h 0 7 1 (v := .ref (q 31)) rfl rfl iX9_runOrders_X9 (by decide) (List.mem_of_getElem? (i := 2) (by decide +kernel)) rfl rfl dX9_runOrders_19 ?_
    refine z_aload_n h 1 rfl dX9_runOrders_22 ?_
    refine z_get h 0 7 0 (v := .ref (q 1)) rfl rfl iX9_runOrders_X9 (by decide) (List.mem_of_getElem? (i := 3) (by decide +kernel)) rfl rfl dX9_runOrders_23 ?_
    refine z_wV h (As := [.ref (q 1)]) (st := []) (ws2 := zCW (zy E) q a g t c (ffO o m) (puN n (tpN k)) (zSs S (tpN k) (cpSa (S (tpN k)) g))) (r := none) 1 (l_und (c_X7_push (fun i => q (31 + i)) a n S (fun i => q (1 + i)) g k hk4 hn4)) egX9_runOrders_X7_push (q0 := 31) (ci := 6) (by decide +kernel) rfl rfl rfl ⟨by decide, by decide⟩ (Nat.le_of_ble_eq_true rfl) rfl rfl dX9_runOrders_26 ?_ hkR
    refine z_aload_n h 1 rfl dX9_runOrders_29 ?_
    refine z_get h 0 7 2 (v := .ref (q 28)) rfl rfl iX9_runOrders_X9 (by decide) (List.mem_of_getElem? (i := 1) (by decide +kernel)) rfl rfl dX9_runOrders_30 ?_
    refine z_wV h (As := []) (st := []) (ws2 := zCW (zy E) q a g t c (rwO (ffO o m)) (puN n (tpN k)) (zSs S (tpN k) (cpSa (S (tpN k)) g))) (r := none) 0 (l_ord (c_X3_rewind (fun i => q (28 + i)) (ffO o m))) egX9_runOrders_X3_rewind (q0 := 28) (ci := 2) (by decide +kernel) rfl rfl rfl ⟨by decide, by decide⟩ (Nat.le_of_ble_eq_true rfl) rfl rfl dX9_runOrders_33 ?_ hkR
    refine z_iconst h (nI 0) (by decide +kernel) dX9_runOrders_36 ?_
    refine z_istore_n h (by decide) (lv' := [(2, .int (nI 0)), (1, .int (ffO o m 0 3)), (0, .ref (q 0))]) rfl dX9_runOrders_37 ?_
    refine z_iconst h (nI 0) (by decide +kernel) dX9_runOrders_38 ?_
    refine z_istore_n h (by decide) (lv' := [(3, .int (nI 0)), (2, .int (nI 0)), (1, .int (ffO o m 0 3)), (0, .ref (q 0))]) rfl dX9_runOrders_39 ?_
    have lp_40 : ∀ (d_40 t9 : Nat) (g9 o9 : Nat → Nat → Int32) (p9 d9 : Nat), 150 < t9 + d_40 → t9 ≤ 150 → (rnR m (150 - t9) g9 o9 p9 d9 = rnC g o m) → (okO o9 m p9) → (okH g9) → (okT g9) → Z E 0 0 [(0, .ref (q 0)), (2, .int (nI d9)), (3, .int (nI t9))] (zCW (zy E) q a g9 t c o9 (puN n (tpN k)) (zSs S (tpN k) (cpSa (S (tpN k)) g))) 40 [] := by
      intro d_40
      induction d_40 with
      | zero => intro t9 g9 o9 p9 d9 q1 q2; omega
      | succ d_40 ih_40 =>
        intro t9 g9 o9 p9 d9 q1_40 q2_40 hrn hok hg9 hgt9
        refine z_iload_n h 2 rfl dX9_runOrders_40 ?_
        refine z_sipush h (nI 150) (by decide +kernel) dX9_runOrders_41 ?_
        refine z_icmp_ge h 90 dX9_runOrders_44 (by decide) (fun c_44 => ?_) (fun c_44 => ?_)
        · have k_44 : 150 ≤ t9 := (nI_leI (by omega) (by omega)).mp c_44
          have hR := rn_end (by omega) hrn
          refine z_iload_n h 1 rfl dX9_runOrders_90 ?_
          exact z_iret h hf rfl (by rw [hR]) (by rw [hR]) dX9_runOrders_91
        · have k_44 : ¬ (150 ≤ t9) := fun q => c_44 ((nI_leI (by omega) (by omega)).mpr q)
          refine z_aload_n h 0 rfl dX9_runOrders_47 ?_
          refine z_get h 0 7 2 (v := .ref (q 28)) rfl rfl iX9_runOrders_X9 (by decide) (List.mem_of_getElem? (i := 1) (by decide +kernel)) rfl rfl dX9_runOrders_48 ?_
          refine z_wV h (As := []) (st := []) (ws2 := zCW (zy E) q a g9 t c (roG o9 m p9) (puN n (tpN k)) (zSs S (tpN k) (cpSa (S (tpN k)) g))) (r := some (.int (roF o9 m p9))) 0 (l_ord (c_X3_readOrder (fun i => q (28 + i)) o9 m p9 hok.1 hok.2.1 hok.2.2.1 hok.2.2.2)) egX9_runOrders_X3_readOrder (q0 := 28) (ci := 2) (by decide +kernel) rfl rfl rfl ⟨by decide, by decide⟩ (Nat.le_of_ble_eq_true rfl) rfl rfl dX9_runOrders_51 ?_ hkR
          refine z_if_eq h 90 dX9_runOrders_54 (by decide) (fun c_54 => ?_) (fun c_54 => ?_)
          · have hR := (rn_step (by omega) hrn).1 c_54
            refine z_iload_n h 1 rfl dX9_runOrders_90 ?_
            exact z_iret h hf rfl (by rw [hR]) (by rw [hR]) dX9_runOrders_91
          · obtain ⟨w9, hw9e⟩ : ∃ w, roW (o9 2) m p9 = w := ⟨_, rfl⟩
            have hw9 := (ro_ok c_54).1
            have hwv := (ro_ok c_54).2
            rw [hw9e] at hw9 hwv
            have hst := (rn_step (by omega) hrn).2 c_54 w9 hw9e
            refine z_aload_n h 0 rfl dX9_runOrders_57 ?_
            refine z_aload_n h 0 rfl dX9_runOrders_58 ?_
            refine z_get h 0 7 2 (v := .ref (q 28)) rfl rfl iX9_runOrders_X9 (by decide) (List.mem_of_getElem? (i := 1) (by decide +kernel)) rfl rfl dX9_runOrders_59 ?_
            refine z_get h 28 2 1 (v := zWv (zy E) ((roG o9 m p9 0) 1)) rfl rfl iX9_runOrders_X3 (by decide) (List.mem_of_getElem? (i := 4) (by decide +kernel)) rfl rfl dX9_runOrders_62 ?_
            refine z_cast (st := [.ref ((zy E).2 w9), .ref (q 0)]) (lv := [(0, .ref (q 0)), (2, .int (nI d9)), (3, .int (nI t9))]) (ws := (zCW (zy E) q a g9 t c (roG o9 m p9) (puN n (tpN k)) (zSs S (tpN k) (cpSa (S (tpN k)) g)))) ?_ rfl rfl (congrArg (fun v => v :: [.ref (q 0)]) ((congrArg (zWv _) hwv).trans (zWv_r _ hw9)))
            refine z_aload_n h 0 rfl dX9_runOrders_65 ?_
            refine z_get h 0 7 2 (v := .ref (q 28)) rfl rfl iX9_runOrders_X9 (by decide) (List.mem_of_getElem? (i := 1) (by decide +kernel)) rfl rfl dX9_runOrders_66 ?_
            refine z_get h 28 2 2 (v := .ref (q 29)) rfl rfl iX9_runOrders_X3 (by decide) (List.mem_of_getElem? (i := 5) (by decide +kernel)) rfl rfl dX9_runOrders_69 ?_
            by_cases hc : orC g9 (roG o9 m p9) w9 = 0
            · skip
              refine z_wV h (As := [.ref ((zy E).2 w9), .ref (q 29)]) (st := []) (ws2 := zCW (zy E) q a (if orC g9 (roG o9 m p9) w9 = 0 then coF g9 (roG o9 m p9) w9 else g9) t c (roG o9 m p9) (puN n (tpN k)) (zSs S (tpN k) (cpSa (S (tpN k)) g))) (r := some (.int (if orC g9 (roG o9 m p9) w9 = 0 then nI 1 else nI 0))) 2 (c_X9_carryOut q a g9 t c (roG o9 m p9) (puN n (tpN k)) (zSs S (tpN k) (cpSa (S (tpN k)) g)) hg9 hgt9 w9 hw9) egX9_runOrders_X9_carryOut (q0 := 0) (ci := 7) (by decide +kernel) rfl rfl rfl ⟨by decide, by decide⟩ (Nat.le_of_ble_eq_true rfl) rfl rfl dX9_runOrders_72 ?_ hkR
              refine z_top (nI 1) (if_pos hc) ?_
              refine z_cast (lv := [(0, .ref (q 0)), (2, .int (nI d9)), (3, .int (nI t9))]) (ws := (zCW (zy E) q a (coF g9 (roG o9 m p9) w9) t c (roG o9 m p9) (puN n (tpN k)) (zSs S (tpN k) (cpSa (S (tpN k)) g)))) (st := [.int (nI 1)]) ?_ rfl (by rw [if_pos hc]) rfl
              refine z_if_ne h 81 dX9_runOrders_75 (by decide) (fun c_75 => ?_) (fun c_75 => ?_)
              · refine z_iinc h 1 (nI (d9 + 1)) rfl z_i1 (by decide) (lv' := [(2, .int (nI (d9 + 1))), (0, .ref (q 0)), (3, .int (nI t9))]) rfl dX9_runOrders_81 ?_
                refine z_iinc h 2 (nI (t9 + 1)) rfl z_i1 (by decide) (lv' := [(3, .int (nI (t9 + 1))), (2, .int (nI (d9 + 1))), (0, .ref (q 0))]) rfl dX9_runOrders_84 ?_
                refine z_goto h 40 dX9_runOrders_87 (by decide) ?_
                refine z_sub [2, 1, 0] (lv' := [(0, .ref (q 0)), (2, .int (nI (d9 + 1))), (3, .int (nI (t9 + 1)))]) rfl ?_
                exact z_cast (ih_40 (t9 + 1) (coF g9 (roG o9 m p9) w9) (roG o9 m p9) (roP o9 m p9) (d9 + 1) (by omega) (by omega) (hst.1 hc) (okO_ro hok) ((co_ok hg9 hgt9 w9 hw9 hc).1) ((co_ok hg9 hgt9 w9 hw9 hc).2)) rfl rfl rfl
              · exact absurd c_75 (by decide +kernel)
            · skip
              refine z_wV h (As := [.ref ((zy E).2 w9), .ref (q 29)]) (st := []) (ws2 := zCW (zy E) q a (if orC g9 (roG o9 m p9) w9 = 0 then coF g9 (roG o9 m p9) w9 else g9) t c (roG o9 m p9) (puN n (tpN k)) (zSs S (tpN k) (cpSa (S (tpN k)) g))) (r := some (.int (if orC g9 (roG o9 m p9) w9 = 0 then nI 1 else nI 0))) 2 (c_X9_carryOut q a g9 t c (roG o9 m p9) (puN n (tpN k)) (zSs S (tpN k) (cpSa (S (tpN k)) g)) hg9 hgt9 w9 hw9) egX9_runOrders_X9_carryOut (q0 := 0) (ci := 7) (by decide +kernel) rfl rfl rfl ⟨by decide, by decide⟩ (Nat.le_of_ble_eq_true rfl) rfl rfl dX9_runOrders_72 ?_ hkR
              refine z_top (nI 0) (if_neg hc) ?_
              refine z_cast (lv := [(0, .ref (q 0)), (2, .int (nI d9)), (3, .int (nI t9))]) (ws := (zCW (zy E) q a g9 t c (roG o9 m p9) (puN n (tpN k)) (zSs S (tpN k) (cpSa (S (tpN k)) g)))) (st := [.int (nI 0)]) ?_ rfl (by rw [if_neg hc]) rfl
              refine z_if_ne h 81 dX9_runOrders_75 (by decide) (fun c_75 => ?_) (fun c_75 => ?_)
              · exact absurd c_75 (by decide +kernel)
              · refine z_goto h 90 dX9_runOrders_78 (by decide) ?_
                refine z_iload_n h 1 rfl dX9_runOrders_90 ?_
                have hR := hst.2 hc
                exact z_iret h hf rfl (by rw [hR]) (by rw [hR]) dX9_runOrders_91
    refine z_sub [3, 1, 0] (lv' := [(0, .ref (q 0)), (2, .int (nI 0)), (3, .int (nI 0))]) rfl ?_
    exact z_cast (lp_40 (150 + 1) 0 g (rwO (ffO o m)) 0 0 (by omega) (by omega) (rn_init g o m) (okO_rw ((ffO_00 o m).trans hm) hm1) hg hgt) rfl rfl rfl
  · exact absurd h0 c_10

set_option maxHeartbeats 4000000 in
set_option maxRecDepth 100000 in
/-- runOrders 1 -/
theorem c_X9_runOrders_1 {l : Launch} {y : zY} {D : va_G} (q : Nat → Nat) (a : Nat → Nat → Nat) (g t c o n : Nat → Nat → Int32) (S : Nat → Nat → Nat → Int32) (m : Nat) (hm : o 0 0 = nI m) (hm1 : m ≤ 150) (hg : okH g) (hgt : okT g) (k : Nat) (hk4 : k < 4) (hn4 : n 0 1 = nI k) (h0 : ¬ ffO o m 0 3 = (-1)) : zM l y D yX9_runOrders eRO 8 178 [.ref (q 0)] (zCW y q a g t c o n S) (zCW y q a g t c (ffO o m) n S) (some (.int ((-10) - ffO o m 0 3))) := by
  refine z_start (own := RX9) (cc := cX9_runOrders) (maxL := 4) (ret := (some .int)) rfl (by decide +kernel) rfl (Nat.le_of_ble_eq_true rfl) (zCW_fst _ _ _ _ _ _ _ _ _ _ _ _ _ _ _) ?_
  intro E hEl hEy hED h hf
  subst hEl hEy hED
  have hkR : 0 ≤ E.2.2.2.2.2.1.cells ∧ 0 ≤ E.2.2.2.2.2.1.slots := ⟨Nat.zero_le _, Nat.zero_le _⟩
  refine z_cast (lv := [(0, .ref (q 0))]) (ws := (zCW (zy E) q a g t c o n S)) (st := []) ?_ rfl rfl rfl
  refine z_aload_n h 0 rfl dX9_runOrders_0 ?_
  refine z_get h 0 7 2 (v := .ref (q 28)) rfl rfl iX9_runOrders_X9 (by decide) (List.mem_of_getElem? (i := 1) (by decide +kernel)) rfl rfl dX9_runOrders_1 ?_
  refine z_wV h (As := []) (st := []) (ws2 := zCW (zy E) q a g t c (ffO o m) n S) (r := some (.int (ffO o m 0 3))) 0 (l_ord (c_X3_firstFault (fun i => q (28 + i)) o m hm hm1)) egX9_runOrders_X3_firstFault (q0 := 28) (ci := 2) (by decide +kernel) rfl rfl rfl ⟨by decide, by decide⟩ (Nat.le_of_ble_eq_true rfl) rfl rfl dX9_runOrders_4 ?_ hkR
  refine z_istore_n h (by decide) (lv' := [(1, .int (ffO o m 0 3)), (0, .ref (q 0))]) rfl dX9_runOrders_7 ?_
  refine z_iload_n h 0 rfl dX9_runOrders_8 ?_
  refine z_iconst h ((-1)) (by decide +kernel) dX9_runOrders_9 ?_
  refine z_icmp_eq h 18 dX9_runOrders_10 (by decide) (fun c_10 => ?_) (fun c_10 => ?_)
  · exact absurd c_10 h0
  · refine z_bipush h ((-10)) (by decide +kernel) dX9_runOrders_13 ?_
    refine z_iload_n h 0 rfl dX9_runOrders_15 ?_
    refine z_isub h dX9_runOrders_16 ?_
    exact z_iret h hf rfl rfl rfl dX9_runOrders_17

/-! areSitesSo and isCountSo of the law -/
theorem hb_no {g : Nat → Nat → Int32} {s : Nat} (hs : s < 8) (h : ¬ (0 : Int32) < svC g s 0) : hbl g (nI s) (nI 0) = 0 := by
  have h2 : g 2 s ≤ nI 0 := Int32.not_lt.mp h
  unfold hbl
  rw [zhA_n hs, if_pos h2]
  split <;> rfl
theorem nI_nz {a : Nat} (h1 : 1 ≤ a) (h2 : a < 2 ^ 31) : ¬ nI a = 0 := fun e => by
  have h := (nI_eq h2 (by omega)).mp (show nI a = nI 0 from e)
  omega
theorem nI_nm1 {w : Nat} (hw : w < 2 ^ 31) : ¬ nI w = (-1) := fun e => by
  have h := congrArg Int32.toInt e
  rw [nI_toInt hw] at h
  have h2 : ((-1 : Int32)).toInt = -1 := by decide +kernel
  rw [h2] at h
  omega

set_option maxHeartbeats 4000000 in
set_option maxRecDepth 100000 in
/-- areSitesSo -/
theorem c_L_areSitesSo {l : Launch} {y : zY} {D : va_G} (q : Nat → Nat) (a : Nat → Nat → Nat) (g t c o n : Nat → Nat → Int32) (S : Nat → Nat → Nat → Int32) (hg : okH g) (ad : Int32) (hvol : ∀ s, s < 8 → ∀ T : Nat → Nat → Int32, vSum (trT g (cpSt T g) 1 7) (s * 6) (zh (trT g (cpSt T g) 1) s) = svC g s 1 - mgI g s (zh g s)) (hcar : vSum (g 4) 0 8 = wvC g o 7 + wvC g o 9) (hcon : ad = wvC g o 0 + nI 100 * (wvC g o 1 + wvC g o 2 + wvC g o 3) + vAll g 8 + wvC g o 7 + vSum (g 5) 0 8) : zM l y D yL_areSitesSo wsL_areSitesSo 6 144 [.ref (q 0), .int ad] (zCW y q a g t c o n S) (zCW y q a g (arT g t 8) c o n S) (some (.int (nI 1))) := by
  refine z_start (own := RL) (cc := cL_areSitesSo) (maxL := 7) (ret := (some .boolean)) rfl (by decide +kernel) rfl (Nat.le_of_ble_eq_true rfl) (zCW_fst _ _ _ _ _ _ _ _ _ _ _ _ _ _ _) ?_
  intro E hEl hEy hED h hf
  subst hEl hEy hED
  have hkR : 0 ≤ E.2.2.2.2.2.1.cells ∧ 0 ≤ E.2.2.2.2.2.1.slots := ⟨Nat.zero_le _, Nat.zero_le _⟩
  refine z_cast (lv := [(0, .ref (q 0)), (1, .int ad)]) (ws := (zCW (zy E) q a g t c o n S)) (st := []) ?_ rfl rfl rfl
  refine z_iconst h (nI 0) (by decide +kernel) dL_areSitesSo_0 ?_
  refine z_istore_n h (by decide) (lv' := [(2, .int (nI 0)), (0, .ref (q 0)), (1, .int ad)]) rfl dL_areSitesSo_1 ?_
  refine z_iconst h (nI 0) (by decide +kernel) dL_areSitesSo_2 ?_
  refine z_istore_n h (by decide) (lv' := [(3, .int (nI 0)), (2, .int (nI 0)), (0, .ref (q 0)), (1, .int ad)]) rfl dL_areSitesSo_3 ?_
  refine z_iconst h (nI 0) (by decide +kernel) dL_areSitesSo_4 ?_
  refine z_istore h (by decide) (lv' := [(4, .int (nI 0)), (3, .int (nI 0)), (2, .int (nI 0)), (0, .ref (q 0)), (1, .int ad)]) rfl dL_areSitesSo_5 ?_
  refine z_iconst h (nI 1) (by decide +kernel) dL_areSitesSo_7 ?_
  refine z_istore h (by decide) (lv' := [(5, .int (nI 1)), (4, .int (nI 0)), (3, .int (nI 0)), (2, .int (nI 0)), (0, .ref (q 0)), (1, .int ad)]) rfl dL_areSitesSo_8 ?_
  refine z_iconst h (nI 0) (by decide +kernel) dL_areSitesSo_10 ?_
  refine z_istore h (by decide) (lv' := [(6, .int (nI 0)), (5, .int (nI 1)), (4, .int (nI 0)), (3, .int (nI 0)), (2, .int (nI 0)), (0, .ref (q 0)), (1, .int ad)]) rfl dL_areSitesSo_11 ?_
  have lp_13 : ∀ (d_13 s9 : Nat), 8 < s9 + d_13 → s9 ≤ 8 → Z E 0 0 [(0, .ref (q 0)), (1, .int ad), (2, .int (vAll g s9)), (3, .int (vSum (g 4) 0 s9)), (4, .int (vSum (g 5) 0 s9)), (5, .int (nI 1)), (6, .int (nI s9))] (zCW (zy E) q a g (arT g t s9) c o n S) 13 [] := by
    intro d_13
    induction d_13 with
    | zero => intro s9  q1 q2; omega
    | succ d_13 ih_13 =>
      intro s9  q1_13 q2_13 
      refine z_iload h 6 rfl dL_areSitesSo_13 ?_
      refine z_bipush h (nI 8) (by decide +kernel) dL_areSitesSo_15 ?_
      refine z_icmp_ge h 138 dL_areSitesSo_17 (by decide) (fun c_17 => ?_) (fun c_17 => ?_)
      · have k_17 : 8 ≤ s9 := (nI_leI (by omega) (by omega)).mp c_17
        obtain rfl : s9 = 8 := by omega
        refine z_aload_n h 0 rfl dL_areSitesSo_138 ?_
        refine z_iconst h (nI 1) (by decide +kernel) dL_areSitesSo_139 ?_
        refine z_wV h (As := [.int (nI 1)]) (st := []) (ws2 := zCW (zy E) q a g (arT g t 8) c o n S) (r := some (.int (wvC g o 1))) 1 (c_X9_whole q a g (arT g t 8) c o n S 1 (by omega) hg) gL_areSitesSo_X9_whole (q0 := 0) (ci := 7) (by decide +kernel) rfl rfl rfl ⟨by decide, by decide⟩ (Nat.le_of_ble_eq_true rfl) rfl rfl dL_areSitesSo_140 ?_ hkR
        refine z_aload_n h 0 rfl dL_areSitesSo_143 ?_
        refine z_iconst h (nI 2) (by decide +kernel) dL_areSitesSo_144 ?_
        refine z_wV h (As := [.int (nI 2)]) (st := [.int (wvC g o 1)]) (ws2 := zCW (zy E) q a g (arT g t 8) c o n S) (r := some (.int (wvC g o 2))) 1 (c_X9_whole q a g (arT g t 8) c o n S 2 (by omega) hg) gL_areSitesSo_X9_whole (q0 := 0) (ci := 7) (by decide +kernel) rfl rfl rfl ⟨by decide, by decide⟩ (Nat.le_of_ble_eq_true rfl) rfl rfl dL_areSitesSo_145 ?_ hkR
        refine z_iadd h dL_areSitesSo_148 ?_
        refine z_aload_n h 0 rfl dL_areSitesSo_149 ?_
        refine z_iconst h (nI 3) (by decide +kernel) dL_areSitesSo_150 ?_
        refine z_wV h (As := [.int (nI 3)]) (st := [.int ((wvC g o 1) + (wvC g o 2))]) (ws2 := zCW (zy E) q a g (arT g t 8) c o n S) (r := some (.int (wvC g o 3))) 1 (c_X9_whole q a g (arT g t 8) c o n S 3 (by omega) hg) gL_areSitesSo_X9_whole (q0 := 0) (ci := 7) (by decide +kernel) rfl rfl rfl ⟨by decide, by decide⟩ (Nat.le_of_ble_eq_true rfl) rfl rfl dL_areSitesSo_151 ?_ hkR
        refine z_iadd h dL_areSitesSo_154 ?_
        refine z_istore h (by decide) (lv' := [(6, .int (((wvC g o 1) + (wvC g o 2)) + (wvC g o 3))), (0, .ref (q 0)), (1, .int ad), (2, .int (vAll g 8)), (3, .int (vSum (g 4) 0 8)), (4, .int (vSum (g 5) 0 8)), (5, .int (nI 1))]) rfl dL_areSitesSo_155 ?_
        refine z_iload h 6 rfl dL_areSitesSo_157 ?_
        refine z_if_eq h 204 dL_areSitesSo_159 (by decide) (fun c_159 => ?_) (fun c_159 => ?_)
        · exact absurd c_159 (by decide +kernel)
        · refine z_iload_n h 3 rfl dL_areSitesSo_162 ?_
          refine z_aload_n h 1 rfl dL_areSitesSo_163 ?_
          refine z_bipush h (nI 6) (by decide +kernel) dL_areSitesSo_164 ?_
          refine z_wV h (As := [.int (nI 6)]) (st := [.int (vAll g 8)]) (ws2 := zCW (zy E) q a g (arT g t 8) c o n S) (r := some (.int (wvC g o 6))) 1 (c_X9_whole q a g (arT g t 8) c o n S 6 (by omega) hg) gL_areSitesSo_X9_whole (q0 := 0) (ci := 7) (by decide +kernel) rfl rfl rfl ⟨by decide, by decide⟩ (Nat.le_of_ble_eq_true rfl) rfl rfl dL_areSitesSo_166 ?_ hkR
          refine z_icmp_ne h 204 dL_areSitesSo_169 (by decide) (fun c_169 => ?_) (fun c_169 => ?_)
          · exact absurd rfl c_169
          · refine z_iload h 5 rfl dL_areSitesSo_172 ?_
            refine z_aload_n h 1 rfl dL_areSitesSo_174 ?_
            refine z_bipush h (nI 8) (by decide +kernel) dL_areSitesSo_175 ?_
            refine z_wV h (As := [.int (nI 8)]) (st := [.int (vSum (g 5) 0 8)]) (ws2 := zCW (zy E) q a g (arT g t 8) c o n S) (r := some (.int (wvC g o 8))) 1 (c_X9_whole q a g (arT g t 8) c o n S 8 (by omega) hg) gL_areSitesSo_X9_whole (q0 := 0) (ci := 7) (by decide +kernel) rfl rfl rfl ⟨by decide, by decide⟩ (Nat.le_of_ble_eq_true rfl) rfl rfl dL_areSitesSo_177 ?_ hkR
            refine z_icmp_ne h 204 dL_areSitesSo_180 (by decide) (fun c_180 => ?_) (fun c_180 => ?_)
            · exact absurd rfl c_180
            · refine z_iload_n h 4 rfl dL_areSitesSo_183 ?_
              refine z_aload_n h 1 rfl dL_areSitesSo_184 ?_
              refine z_bipush h (nI 7) (by decide +kernel) dL_areSitesSo_185 ?_
              refine z_wV h (As := [.int (nI 7)]) (st := [.int (vSum (g 4) 0 8)]) (ws2 := zCW (zy E) q a g (arT g t 8) c o n S) (r := some (.int (wvC g o 7))) 1 (c_X9_whole q a g (arT g t 8) c o n S 7 (by omega) hg) gL_areSitesSo_X9_whole (q0 := 0) (ci := 7) (by decide +kernel) rfl rfl rfl ⟨by decide, by decide⟩ (Nat.le_of_ble_eq_true rfl) rfl rfl dL_areSitesSo_187 ?_ hkR
              refine z_aload_n h 1 rfl dL_areSitesSo_190 ?_
              refine z_bipush h (nI 9) (by decide +kernel) dL_areSitesSo_191 ?_
              refine z_wV h (As := [.int (nI 9)]) (st := [.int (wvC g o 7), .int (vSum (g 4) 0 8)]) (ws2 := zCW (zy E) q a g (arT g t 8) c o n S) (r := some (.int (wvC g o 9))) 1 (c_X9_whole q a g (arT g t 8) c o n S 9 (by omega) hg) gL_areSitesSo_X9_whole (q0 := 0) (ci := 7) (by decide +kernel) rfl rfl rfl ⟨by decide, by decide⟩ (Nat.le_of_ble_eq_true rfl) rfl rfl dL_areSitesSo_193 ?_ hkR
              refine z_iadd h dL_areSitesSo_196 ?_
              refine z_icmp_ne h 204 dL_areSitesSo_197 (by decide) (fun c_197 => ?_) (fun c_197 => ?_)
              · exact absurd hcar c_197
              · refine z_iconst h (nI 1) (by decide +kernel) dL_areSitesSo_200 ?_
                refine z_goto h 205 dL_areSitesSo_201 (by decide) ?_
                refine z_istore h (by decide) (lv' := [(5, .int (nI 1)), (6, .int (((wvC g o 1) + (wvC g o 2)) + (wvC g o 3))), (0, .ref (q 0)), (1, .int ad), (2, .int (vAll g 8)), (3, .int (vSum (g 4) 0 8)), (4, .int (vSum (g 5) 0 8))]) rfl dL_areSitesSo_205 ?_
                refine z_iload h 0 rfl dL_areSitesSo_207 ?_
                refine z_if_eq h 243 dL_areSitesSo_209 (by decide) (fun c_209 => ?_) (fun c_209 => ?_)
                · exact absurd c_209 (by decide +kernel)
                · refine z_iload_n h 3 rfl dL_areSitesSo_212 ?_
                  refine z_aload_n h 2 rfl dL_areSitesSo_213 ?_
                  refine z_iconst h (nI 0) (by decide +kernel) dL_areSitesSo_214 ?_
                  refine z_wV h (As := [.int (nI 0)]) (st := [.int ad]) (ws2 := zCW (zy E) q a g (arT g t 8) c o n S) (r := some (.int (wvC g o 0))) 1 (c_X9_whole q a g (arT g t 8) c o n S 0 (by omega) hg) gL_areSitesSo_X9_whole (q0 := 0) (ci := 7) (by decide +kernel) rfl rfl rfl ⟨by decide, by decide⟩ (Nat.le_of_ble_eq_true rfl) rfl rfl dL_areSitesSo_215 ?_ hkR
                  refine z_bipush h (nI 100) (by decide +kernel) dL_areSitesSo_218 ?_
                  refine z_iload h 1 rfl dL_areSitesSo_220 ?_
                  refine z_imul h dL_areSitesSo_222 ?_
                  refine z_iadd h dL_areSitesSo_223 ?_
                  refine z_iload_n h 4 rfl dL_areSitesSo_224 ?_
                  refine z_iadd h dL_areSitesSo_225 ?_
                  refine z_aload_n h 2 rfl dL_areSitesSo_226 ?_
                  refine z_bipush h (nI 7) (by decide +kernel) dL_areSitesSo_227 ?_
                  refine z_wV h (As := [.int (nI 7)]) (st := [.int (((wvC g o 0) + ((nI 100) * (((wvC g o 1) + (wvC g o 2)) + (wvC g o 3)))) + (vAll g 8)), .int ad]) (ws2 := zCW (zy E) q a g (arT g t 8) c o n S) (r := some (.int (wvC g o 7))) 1 (c_X9_whole q a g (arT g t 8) c o n S 7 (by omega) hg) gL_areSitesSo_X9_whole (q0 := 0) (ci := 7) (by decide +kernel) rfl rfl rfl ⟨by decide, by decide⟩ (Nat.le_of_ble_eq_true rfl) rfl rfl dL_areSitesSo_229 ?_ hkR
                  refine z_iadd h dL_areSitesSo_232 ?_
                  refine z_iload h 6 rfl dL_areSitesSo_233 ?_
                  refine z_iadd h dL_areSitesSo_235 ?_
                  refine z_icmp_ne h 243 dL_areSitesSo_236 (by decide) (fun c_236 => ?_) (fun c_236 => ?_)
                  · exact absurd hcon c_236
                  · refine z_iconst h (nI 1) (by decide +kernel) dL_areSitesSo_239 ?_
                    refine z_goto h 244 dL_areSitesSo_240 (by decide) ?_
                    exact z_zret h hf rfl rfl rfl rfl dL_areSitesSo_244
      · have k_17 : ¬ (8 ≤ s9) := fun q => c_17 ((nI_leI (by omega) (by omega)).mpr q)
        have hz9 := (hg s9 (by omega)).2
        refine z_iload_n h 2 rfl dL_areSitesSo_20 ?_
        refine z_aload_n h 0 rfl dL_areSitesSo_21 ?_
        refine z_iload h 6 rfl dL_areSitesSo_22 ?_
        refine z_iconst h (nI 1) (by decide +kernel) dL_areSitesSo_24 ?_
        refine z_wV h (As := [.int (nI s9), .int (nI 1)]) (st := [.int (vAll g s9)]) (ws2 := zCW (zy E) q a g (arT g t s9) c o n S) (r := some (.int (svC g s9 1))) 2 (c_X9_site q a g (arT g t s9) c o n S s9 1 (by omega) (by omega) hg (si_8 _ (by omega))) gL_areSitesSo_X9_site (q0 := 0) (ci := 7) (by decide +kernel) rfl rfl rfl ⟨by decide, by decide⟩ (Nat.le_of_ble_eq_true rfl) rfl rfl dL_areSitesSo_25 ?_ hkR
        refine z_iadd h dL_areSitesSo_28 ?_
        refine z_top (vAll g (s9 + 1)) rfl ?_
        refine z_istore_n h (by decide) (lv' := [(2, .int (vAll g (s9 + 1))), (0, .ref (q 0)), (1, .int ad), (3, .int (vSum (g 4) 0 s9)), (4, .int (vSum (g 5) 0 s9)), (5, .int (nI 1)), (6, .int (nI s9))]) rfl dL_areSitesSo_29 ?_
        refine z_iload_n h 3 rfl dL_areSitesSo_30 ?_
        refine z_aload_n h 1 rfl dL_areSitesSo_31 ?_
        refine z_iload h 6 rfl dL_areSitesSo_32 ?_
        refine z_iconst h (nI 3) (by decide +kernel) dL_areSitesSo_34 ?_
        refine z_wV h (As := [.int (nI s9), .int (nI 3)]) (st := [.int (vSum (g 4) 0 s9)]) (ws2 := zCW (zy E) q a g (arT g t s9) c o n S) (r := some (.int (svC g s9 3))) 2 (c_X9_site q a g (arT g t s9) c o n S s9 3 (by omega) (by omega) hg (si_8 _ (by omega))) gL_areSitesSo_X9_site (q0 := 0) (ci := 7) (by decide +kernel) rfl rfl rfl ⟨by decide, by decide⟩ (Nat.le_of_ble_eq_true rfl) rfl rfl dL_areSitesSo_35 ?_ hkR
        refine z_iadd h dL_areSitesSo_38 ?_
        refine z_top (vSum (g 4) 0 (s9 + 1)) (by show _ = vSum (g 4) 0 s9 + g 4 (0 + s9); rw [Nat.zero_add]; rfl) ?_
        refine z_istore_n h (by decide) (lv' := [(3, .int (vSum (g 4) 0 (s9 + 1))), (2, .int (vAll g (s9 + 1))), (0, .ref (q 0)), (1, .int ad), (4, .int (vSum (g 5) 0 s9)), (5, .int (nI 1)), (6, .int (nI s9))]) rfl dL_areSitesSo_39 ?_
        refine z_iload h 4 rfl dL_areSitesSo_40 ?_
        refine z_aload_n h 2 rfl dL_areSitesSo_42 ?_
        refine z_iload h 6 rfl dL_areSitesSo_43 ?_
        refine z_iconst h (nI 4) (by decide +kernel) dL_areSitesSo_45 ?_
        refine z_wV h (As := [.int (nI s9), .int (nI 4)]) (st := [.int (vSum (g 5) 0 s9)]) (ws2 := zCW (zy E) q a g (arT g t s9) c o n S) (r := some (.int (svC g s9 4))) 2 (c_X9_site q a g (arT g t s9) c o n S s9 4 (by omega) (by omega) hg (si_8 _ (by omega))) gL_areSitesSo_X9_site (q0 := 0) (ci := 7) (by decide +kernel) rfl rfl rfl ⟨by decide, by decide⟩ (Nat.le_of_ble_eq_true rfl) rfl rfl dL_areSitesSo_46 ?_ hkR
        refine z_iadd h dL_areSitesSo_49 ?_
        refine z_top (vSum (g 5) 0 (s9 + 1)) (by show _ = vSum (g 5) 0 s9 + g 5 (0 + s9); rw [Nat.zero_add]; rfl) ?_
        refine z_istore h (by decide) (lv' := [(4, .int (vSum (g 5) 0 (s9 + 1))), (3, .int (vSum (g 4) 0 (s9 + 1))), (2, .int (vAll g (s9 + 1))), (0, .ref (q 0)), (1, .int ad), (5, .int (nI 1)), (6, .int (nI s9))]) rfl dL_areSitesSo_50 ?_
        refine z_iload h 5 rfl dL_areSitesSo_52 ?_
        refine z_if_eq h 97 dL_areSitesSo_54 (by decide) (fun c_54 => ?_) (fun c_54 => ?_)
        · exact absurd c_54 (by decide +kernel)
        · refine z_aload_n h 3 rfl dL_areSitesSo_57 ?_
          refine z_iload h 6 rfl dL_areSitesSo_58 ?_
          refine z_iconst h (nI 0) (by decide +kernel) dL_areSitesSo_60 ?_
          refine z_wV h (As := [.int (nI s9), .int (nI 0)]) (st := []) (ws2 := zCW (zy E) q a g (arT g t s9) c o n S) (r := some (.int (svC g s9 0))) 2 (c_X9_site q a g (arT g t s9) c o n S s9 0 (by omega) (by omega) hg (si_8 _ (by omega))) gL_areSitesSo_X9_site (q0 := 0) (ci := 7) (by decide +kernel) rfl rfl rfl ⟨by decide, by decide⟩ (Nat.le_of_ble_eq_true rfl) rfl rfl dL_areSitesSo_61 ?_ hkR
          refine z_top (nI (zh g s9)) ((if_pos rfl).trans (hg s9 (by omega)).1) ?_
          refine z_bipush h (nI 6) (by decide +kernel) dL_areSitesSo_64 ?_
          refine z_icmp_gt h 97 dL_areSitesSo_66 (by decide) (fun c_66 => ?_) (fun c_66 => ?_)
          · exact absurd ((nI_ltI (by omega) (by omega)).mp c_66) (by omega)
          · have k_66 : ¬ (6 < (zh g s9)) := fun q => c_66 ((nI_ltI (by omega) (by omega)).mpr q)
            refine z_aload_n h 3 rfl dL_areSitesSo_69 ?_
            refine z_iload h 6 rfl dL_areSitesSo_70 ?_
            refine z_iconst h (nI 1) (by decide +kernel) dL_areSitesSo_72 ?_
            refine z_wV h (As := [.int (nI s9), .int (nI 1)]) (st := []) (ws2 := zCW (zy E) q a g (trT g (cpSt (arT g t s9) g) 1) c o n S) (r := some (.int (vSum (trT g (cpSt (arT g t s9) g) 1 7) (s9 * 6) (zh (trT g (cpSt (arT g t s9) g) 1) s9)))) 2 (c_X9_volumeIn q a g (arT g t s9) c o n S s9 1 (by omega) (by omega) hg (si_8 _ (by omega)) (by decide +kernel)) gL_areSitesSo_X9_volumeIn (q0 := 0) (ci := 7) (by decide +kernel) rfl rfl rfl ⟨by decide, by decide⟩ (Nat.le_of_ble_eq_true rfl) rfl rfl dL_areSitesSo_73 ?_ hkR
            refine z_aload_n h 3 rfl dL_areSitesSo_76 ?_
            refine z_iload h 6 rfl dL_areSitesSo_77 ?_
            refine z_iconst h (nI 1) (by decide +kernel) dL_areSitesSo_79 ?_
            refine z_wV h (As := [.int (nI s9), .int (nI 1)]) (st := [.int (vSum (trT g (cpSt (arT g t s9) g) 1 7) (s9 * 6) (zh (trT g (cpSt (arT g t s9) g) 1) s9))]) (ws2 := zCW (zy E) q a g (trT g (cpSt (arT g t s9) g) 1) c o n S) (r := some (.int (svC g s9 1))) 2 (c_X9_site q a g (trT g (cpSt (arT g t s9) g) 1) c o n S s9 1 (by omega) (by omega) hg (si_8 _ (by omega))) gL_areSitesSo_X9_site (q0 := 0) (ci := 7) (by decide +kernel) rfl rfl rfl ⟨by decide, by decide⟩ (Nat.le_of_ble_eq_true rfl) rfl rfl dL_areSitesSo_80 ?_ hkR
            refine z_aload_n h 3 rfl dL_areSitesSo_83 ?_
            refine z_iload h 6 rfl dL_areSitesSo_84 ?_
            refine z_wS h (As := [.ref (q 0), .int (nI s9)]) (st := [.int (svC g s9 1), .int (vSum (trT g (cpSt (arT g t s9) g) 1 7) (s9 * 6) (zh (trT g (cpSt (arT g t s9) g) 1) s9))]) (ws2 := zCW (zy E) q a g (trT g (cpSt (arT g t s9) g) 1) c o n S) (r := some (.int (mgI g s9 (zh g s9)))) 2 (c_L_melting q a g (trT g (cpSt (arT g t s9) g) 1) c o n S s9 (by omega) hg) gL_areSitesSo_L_melting (by decide +kernel) rfl ⟨by decide, by decide⟩ (Nat.le_of_ble_eq_true rfl) rfl rfl dL_areSitesSo_86 ?_ hkR
            refine z_isub h dL_areSitesSo_89 ?_
            refine z_icmp_ne h 97 dL_areSitesSo_90 (by decide) (fun c_90 => ?_) (fun c_90 => ?_)
            · exact absurd (hvol s9 (by omega) _) c_90
            · refine z_iconst h (nI 1) (by decide +kernel) dL_areSitesSo_93 ?_
              refine z_goto h 98 dL_areSitesSo_94 (by decide) ?_
              refine z_istore h (by decide) (lv' := [(5, .int (nI 1)), (4, .int (vSum (g 5) 0 (s9 + 1))), (3, .int (vSum (g 4) 0 (s9 + 1))), (2, .int (vAll g (s9 + 1))), (0, .ref (q 0)), (1, .int ad), (6, .int (nI s9))]) rfl dL_areSitesSo_98 ?_
              refine z_iload h 0 rfl dL_areSitesSo_100 ?_
              refine z_if_eq h 129 dL_areSitesSo_102 (by decide) (fun c_102 => ?_) (fun c_102 => ?_)
              · exact absurd c_102 (by decide +kernel)
              · refine z_aload_n h 4 rfl dL_areSitesSo_105 ?_
                refine z_iload h 6 rfl dL_areSitesSo_106 ?_
                refine z_iconst h (nI 0) (by decide +kernel) dL_areSitesSo_108 ?_
                refine z_wV h (As := [.int (nI s9), .int (nI 0)]) (st := []) (ws2 := zCW (zy E) q a g (trT g (cpSt (arT g t s9) g) 1) c o n S) (r := some (.int (svC g s9 0))) 2 (c_X9_site q a g (trT g (cpSt (arT g t s9) g) 1) c o n S s9 0 (by omega) (by omega) hg (si_8 _ (by omega))) gL_areSitesSo_X9_site (q0 := 0) (ci := 7) (by decide +kernel) rfl rfl rfl ⟨by decide, by decide⟩ (Nat.le_of_ble_eq_true rfl) rfl rfl dL_areSitesSo_109 ?_ hkR
                refine z_if_gt h 125 dL_areSitesSo_112 (by decide) (fun c_112 => ?_) (fun c_112 => ?_)
                · refine z_iconst h (nI 1) (by decide +kernel) dL_areSitesSo_125 ?_
                  refine z_goto h 130 dL_areSitesSo_126 (by decide) ?_
                  refine z_istore h (by decide) (lv' := [(5, .int (nI 1)), (4, .int (vSum (g 5) 0 (s9 + 1))), (3, .int (vSum (g 4) 0 (s9 + 1))), (2, .int (vAll g (s9 + 1))), (0, .ref (q 0)), (1, .int ad), (6, .int (nI s9))]) rfl dL_areSitesSo_130 ?_
                  refine z_iinc h 6 (nI (s9 + 1)) rfl z_i1 (by decide) (lv' := [(6, .int (nI (s9 + 1))), (5, .int (nI 1)), (4, .int (vSum (g 5) 0 (s9 + 1))), (3, .int (vSum (g 4) 0 (s9 + 1))), (2, .int (vAll g (s9 + 1))), (0, .ref (q 0)), (1, .int ad)]) rfl dL_areSitesSo_132 ?_
                  refine z_goto h 13 dL_areSitesSo_135 (by decide) ?_
                  refine z_sub [5, 6, 4, 3, 2, 1, 0] (lv' := [(0, .ref (q 0)), (1, .int ad), (2, .int (vAll g (s9 + 1))), (3, .int (vSum (g 4) 0 (s9 + 1))), (4, .int (vSum (g 5) 0 (s9 + 1))), (5, .int (nI 1)), (6, .int (nI (s9 + 1)))]) rfl ?_
                  exact z_cast (ih_13 (s9 + 1) (by omega) (by omega)) rfl rfl rfl
                · have hgone : hbl g (nI s9) (nI 0) = 0 := hb_no (by omega) c_112
                  refine z_aload_n h 4 rfl dL_areSitesSo_115 ?_
                  refine z_iload h 6 rfl dL_areSitesSo_116 ?_
                  refine z_wV h (As := [.int (nI s9)]) (st := []) (ws2 := zCW (zy E) q a g (trT g (cpSt (arT g t s9) g) 1) c o n S) (r := some (.int (-1))) 1 (c_X9_goneIn_0 q a g (trT g (cpSt (arT g t s9) g) 1) c o n S s9 (si_8 _ (by omega)) hgone) gL_areSitesSo_X9_goneIn (q0 := 0) (ci := 7) (by decide +kernel) rfl rfl rfl ⟨by decide, by decide⟩ (Nat.le_of_ble_eq_true rfl) rfl rfl dL_areSitesSo_118 ?_ hkR
                  refine z_iconst h ((-1)) (by decide +kernel) dL_areSitesSo_121 ?_
                  refine z_icmp_ne h 129 dL_areSitesSo_122 (by decide) (fun c_122 => ?_) (fun c_122 => ?_)
                  · exact absurd rfl c_122
                  · refine z_iconst h (nI 1) (by decide +kernel) dL_areSitesSo_125 ?_
                    refine z_goto h 130 dL_areSitesSo_126 (by decide) ?_
                    refine z_istore h (by decide) (lv' := [(5, .int (nI 1)), (4, .int (vSum (g 5) 0 (s9 + 1))), (3, .int (vSum (g 4) 0 (s9 + 1))), (2, .int (vAll g (s9 + 1))), (0, .ref (q 0)), (1, .int ad), (6, .int (nI s9))]) rfl dL_areSitesSo_130 ?_
                    refine z_iinc h 6 (nI (s9 + 1)) rfl z_i1 (by decide) (lv' := [(6, .int (nI (s9 + 1))), (5, .int (nI 1)), (4, .int (vSum (g 5) 0 (s9 + 1))), (3, .int (vSum (g 4) 0 (s9 + 1))), (2, .int (vAll g (s9 + 1))), (0, .ref (q 0)), (1, .int ad)]) rfl dL_areSitesSo_132 ?_
                    refine z_goto h 13 dL_areSitesSo_135 (by decide) ?_
                    refine z_sub [5, 6, 4, 3, 2, 1, 0] (lv' := [(0, .ref (q 0)), (1, .int ad), (2, .int (vAll g (s9 + 1))), (3, .int (vSum (g 4) 0 (s9 + 1))), (4, .int (vSum (g 5) 0 (s9 + 1))), (5, .int (nI 1)), (6, .int (nI (s9 + 1)))]) rfl ?_
                    exact z_cast (ih_13 (s9 + 1) (by omega) (by omega)) rfl rfl rfl
  refine z_sub [5, 6, 4, 3, 2, 1, 0] (lv' := [(0, .ref (q 0)), (1, .int ad), (2, .int (nI 0)), (3, .int (nI 0)), (4, .int (nI 0)), (5, .int (nI 1)), (6, .int (nI 0))]) rfl ?_
  exact z_cast (lp_13 (8 + 1) 0 (by omega) (by omega)) rfl rfl rfl

set_option maxHeartbeats 4000000 in
set_option maxRecDepth 100000 in
/-- isCountSo, no sculpture -/
theorem c_L_isCountSo_0 {l : Launch} {y : zY} {D : va_G} (q : Nat → Nat) (a : Nat → Nat → Nat) (g t c o n : Nat → Nat → Int32) (S : Nat → Nat → Nat → Int32) (hg : okH g) (hgb : okB g) (C : Nat → Nat → Int32) (hC : tkC g c = C) (hI : tkC g C = C) (hm : scN g 8 = nI 0) (hR : C 0 0 = nI 0) (hW : C 0 1 = (-1)) : zM l y D yL_isCountSo wsL_isCountSo 6 139 [.ref (q 0)] (zCW y q a g t c o n S) (zCW y q a g t C o n S) (some (.int (nI 1))) := by
  refine z_start (own := RL) (cc := cL_isCountSo) (maxL := 7) (ret := (some .boolean)) rfl (by decide +kernel) rfl (Nat.le_of_ble_eq_true rfl) (zCW_fst _ _ _ _ _ _ _ _ _ _ _ _ _ _ _) ?_
  intro E hEl hEy hED h hf
  subst hEl hEy hED
  have hkR : 0 ≤ E.2.2.2.2.2.1.cells ∧ 0 ≤ E.2.2.2.2.2.1.slots := ⟨Nat.zero_le _, Nat.zero_le _⟩
  refine z_cast (lv := [(0, .ref (q 0))]) (ws := (zCW (zy E) q a g t c o n S)) (st := []) ?_ rfl rfl rfl
  refine z_aload_n h 0 rfl dL_isCountSo_0 ?_
  refine z_wV h (As := []) (st := []) (ws2 := zCW (zy E) q a g t (tkC g c) o n S) (r := some (.int (tkC g c 0 0))) 0 (c_X9_rounds q a g t c o n S hg hgb) gL_isCountSo_X9_rounds (q0 := 0) (ci := 7) (by decide +kernel) rfl rfl rfl ⟨by decide, by decide⟩ (Nat.le_of_ble_eq_true rfl) rfl rfl dL_isCountSo_1 ?_ hkR
  refine z_cast (lv := [(0, .ref (q 0))]) (ws := (zCW (zy E) q a g t C o n S)) (st := [.int (tkC g c 0 0)]) ?_ rfl (by rw [hC]) rfl
  refine z_top (nI 0) (by rw [hC]; exact hR) ?_
  refine z_istore_n h (by decide) (lv' := [(1, .int (nI 0)), (0, .ref (q 0))]) rfl dL_isCountSo_4 ?_
  refine z_iload_n h 0 rfl dL_isCountSo_5 ?_
  refine z_aload_n h 1 rfl dL_isCountSo_6 ?_
  refine z_iconst h (nI 5) (by decide +kernel) dL_isCountSo_7 ?_
  refine z_wV h (As := [.int (nI 5)]) (st := [.int (nI 0)]) (ws2 := zCW (zy E) q a g t C o n S) (r := some (.int (wvC g o 5))) 1 (c_X9_whole q a g t C o n S 5 (by omega) hg) gL_isCountSo_X9_whole (q0 := 0) (ci := 7) (by decide +kernel) rfl rfl rfl ⟨by decide, by decide⟩ (Nat.le_of_ble_eq_true rfl) rfl rfl dL_isCountSo_8 ?_ hkR
  refine z_top (nI 0) hm ?_
  refine z_icmp_gt h 68 dL_isCountSo_11 (by decide) (fun c_11 => ?_) (fun c_11 => ?_)
  · exact absurd c_11 (by decide +kernel)
  · refine z_iload_n h 0 rfl dL_isCountSo_14 ?_
    refine z_if_ne h 22 dL_isCountSo_15 (by decide) (fun c_15 => ?_) (fun c_15 => ?_)
    · exact absurd c_15 (by decide +kernel)
    · refine z_iconst h (nI 1) (by decide +kernel) dL_isCountSo_18 ?_
      refine z_goto h 23 dL_isCountSo_19 (by decide) ?_
      refine z_aload_n h 1 rfl dL_isCountSo_23 ?_
      refine z_iconst h (nI 5) (by decide +kernel) dL_isCountSo_24 ?_
      refine z_wV h (As := [.int (nI 5)]) (st := [.int (nI 1)]) (ws2 := zCW (zy E) q a g t C o n S) (r := some (.int (wvC g o 5))) 1 (c_X9_whole q a g t C o n S 5 (by omega) hg) gL_isCountSo_X9_whole (q0 := 0) (ci := 7) (by decide +kernel) rfl rfl rfl ⟨by decide, by decide⟩ (Nat.le_of_ble_eq_true rfl) rfl rfl dL_isCountSo_25 ?_ hkR
      refine z_top (nI 0) hm ?_
      refine z_if_ne h 35 dL_isCountSo_28 (by decide) (fun c_28 => ?_) (fun c_28 => ?_)
      · exact absurd c_28 (by decide +kernel)
      · refine z_iconst h (nI 1) (by decide +kernel) dL_isCountSo_31 ?_
        refine z_goto h 36 dL_isCountSo_32 (by decide) ?_
        refine z_icmp_ne h 68 dL_isCountSo_36 (by decide) (fun c_36 => ?_) (fun c_36 => ?_)
        · exact absurd c_36 (by decide +kernel)
        · refine z_aload_n h 1 rfl dL_isCountSo_39 ?_
          refine z_wV h (As := []) (st := []) (ws2 := zCW (zy E) q a g t (tkC g C) o n S) (r := some (.int (tkC g C 0 1))) 0 (c_X9_winner q a g t C o n S hg hgb) gL_isCountSo_X9_winner (q0 := 0) (ci := 7) (by decide +kernel) rfl rfl rfl ⟨by decide, by decide⟩ (Nat.le_of_ble_eq_true rfl) rfl rfl dL_isCountSo_40 ?_ hkR
          refine z_cast (lv := [(1, .int (nI 0)), (0, .ref (q 0))]) (ws := (zCW (zy E) q a g t C o n S)) (st := [.int (tkC g C 0 1)]) ?_ rfl (by rw [hI]) rfl
          refine z_top (-1) (by rw [hI]; exact hW) ?_
          refine z_iconst h ((-1)) (by decide +kernel) dL_isCountSo_43 ?_
          refine z_icmp_ne h 51 dL_isCountSo_44 (by decide) (fun c_44 => ?_) (fun c_44 => ?_)
          · exact absurd rfl c_44
          · refine z_iconst h (nI 1) (by decide +kernel) dL_isCountSo_47 ?_
            refine z_goto h 52 dL_isCountSo_48 (by decide) ?_
            refine z_iload_n h 0 rfl dL_isCountSo_52 ?_
            refine z_if_ne h 60 dL_isCountSo_53 (by decide) (fun c_53 => ?_) (fun c_53 => ?_)
            · exact absurd c_53 (by decide +kernel)
            · refine z_iconst h (nI 1) (by decide +kernel) dL_isCountSo_56 ?_
              refine z_goto h 61 dL_isCountSo_57 (by decide) ?_
              refine z_icmp_ne h 68 dL_isCountSo_61 (by decide) (fun c_61 => ?_) (fun c_61 => ?_)
              · exact absurd c_61 (by decide +kernel)
              · refine z_iconst h (nI 1) (by decide +kernel) dL_isCountSo_64 ?_
                refine z_goto h 69 dL_isCountSo_65 (by decide) ?_
                refine z_istore_n h (by decide) (lv' := [(2, .int (nI 1)), (1, .int (nI 0)), (0, .ref (q 0))]) rfl dL_isCountSo_69 ?_
                refine z_iconst h (nI 0) (by decide +kernel) dL_isCountSo_70 ?_
                refine z_istore_n h (by decide) (lv' := [(3, .int (nI 0)), (2, .int (nI 1)), (1, .int (nI 0)), (0, .ref (q 0))]) rfl dL_isCountSo_71 ?_
                refine z_iload_n h 0 rfl dL_isCountSo_72 ?_
                refine z_iload_n h 2 rfl dL_isCountSo_73 ?_
                refine z_icmp_ge h 185 dL_isCountSo_74 (by decide) (fun c_74 => ?_) (fun c_74 => ?_)
                · refine z_iload_n h 1 rfl dL_isCountSo_185 ?_
                  refine z_if_eq h 212 dL_isCountSo_186 (by decide) (fun c_186 => ?_) (fun c_186 => ?_)
                  · exact absurd c_186 (by decide +kernel)
                  · refine z_iload_n h 2 rfl dL_isCountSo_189 ?_
                    refine z_if_eq h 208 dL_isCountSo_190 (by decide) (fun c_190 => ?_) (fun c_190 => ?_)
                    · refine z_iconst h (nI 1) (by decide +kernel) dL_isCountSo_208 ?_
                      refine z_goto h 213 dL_isCountSo_209 (by decide) ?_
                      exact z_zret h hf rfl rfl rfl rfl dL_isCountSo_213
                    · exact absurd c_190 (by decide +kernel)
                · exact absurd c_74 (by decide +kernel)

set_option maxHeartbeats 4000000 in
set_option maxRecDepth 100000 in
/-- isCountSo -/
theorem c_L_isCountSo_1 {l : Launch} {y : zY} {D : va_G} (q : Nat → Nat) (a : Nat → Nat → Nat) (g t c o n : Nat → Nat → Int32) (S : Nat → Nat → Nat → Int32) (hg : okH g) (hgb : okB g) (C : Nat → Nat → Int32) (hC : tkC g c = C) (hI : tkC g C = C) (r m w : Nat) (h1 : 1 ≤ r) (hm8 : m ≤ 8) (hrm : r ≤ m) (hw : w < 8) (hm : scN g 8 = nI m) (hR : C 0 0 = nI r) (hW : C 0 1 = nI w) (hsg : ∀ r9, r9 < r → sgI (fun s => vsC g C r9 s) 8 ≤ g 0 7) (hst : ∀ r9, r9 < r → stI (fun s => vsC g C r9 s) 8 = nI m - nI r9) (hlast : ¬ vsC g C (r - 1) w = (-1)) : zM l y D yL_isCountSo wsL_isCountSo 6 139 [.ref (q 0)] (zCW y q a g t c o n S) (zCW y q a g t C o n S) (some (.int (nI 1))) := by
  refine z_start (own := RL) (cc := cL_isCountSo) (maxL := 7) (ret := (some .boolean)) rfl (by decide +kernel) rfl (Nat.le_of_ble_eq_true rfl) (zCW_fst _ _ _ _ _ _ _ _ _ _ _ _ _ _ _) ?_
  intro E hEl hEy hED h hf
  subst hEl hEy hED
  have hkR : 0 ≤ E.2.2.2.2.2.1.cells ∧ 0 ≤ E.2.2.2.2.2.1.slots := ⟨Nat.zero_le _, Nat.zero_le _⟩
  refine z_cast (lv := [(0, .ref (q 0))]) (ws := (zCW (zy E) q a g t c o n S)) (st := []) ?_ rfl rfl rfl
  refine z_aload_n h 0 rfl dL_isCountSo_0 ?_
  refine z_wV h (As := []) (st := []) (ws2 := zCW (zy E) q a g t (tkC g c) o n S) (r := some (.int (tkC g c 0 0))) 0 (c_X9_rounds q a g t c o n S hg hgb) gL_isCountSo_X9_rounds (q0 := 0) (ci := 7) (by decide +kernel) rfl rfl rfl ⟨by decide, by decide⟩ (Nat.le_of_ble_eq_true rfl) rfl rfl dL_isCountSo_1 ?_ hkR
  refine z_cast (lv := [(0, .ref (q 0))]) (ws := (zCW (zy E) q a g t C o n S)) (st := [.int (tkC g c 0 0)]) ?_ rfl (by rw [hC]) rfl
  refine z_top (nI r) (by rw [hC]; exact hR) ?_
  refine z_istore_n h (by decide) (lv' := [(1, .int (nI r)), (0, .ref (q 0))]) rfl dL_isCountSo_4 ?_
  refine z_iload_n h 0 rfl dL_isCountSo_5 ?_
  refine z_aload_n h 1 rfl dL_isCountSo_6 ?_
  refine z_iconst h (nI 5) (by decide +kernel) dL_isCountSo_7 ?_
  refine z_wV h (As := [.int (nI 5)]) (st := [.int (nI r)]) (ws2 := zCW (zy E) q a g t C o n S) (r := some (.int (wvC g o 5))) 1 (c_X9_whole q a g t C o n S 5 (by omega) hg) gL_isCountSo_X9_whole (q0 := 0) (ci := 7) (by decide +kernel) rfl rfl rfl ⟨by decide, by decide⟩ (Nat.le_of_ble_eq_true rfl) rfl rfl dL_isCountSo_8 ?_ hkR
  refine z_top (nI m) hm ?_
  refine z_icmp_gt h 68 dL_isCountSo_11 (by decide) (fun c_11 => ?_) (fun c_11 => ?_)
  · exact absurd ((nI_ltI (by omega) (by omega)).mp c_11) (by omega)
  · have k_11 : ¬ (m < r) := fun q => c_11 ((nI_ltI (by omega) (by omega)).mpr q)
    refine z_iload_n h 0 rfl dL_isCountSo_14 ?_
    refine z_if_ne h 22 dL_isCountSo_15 (by decide) (fun c_15 => ?_) (fun c_15 => ?_)
    · refine z_iconst h (nI 0) (by decide +kernel) dL_isCountSo_22 ?_
      refine z_aload_n h 1 rfl dL_isCountSo_23 ?_
      refine z_iconst h (nI 5) (by decide +kernel) dL_isCountSo_24 ?_
      refine z_wV h (As := [.int (nI 5)]) (st := [.int (nI 0)]) (ws2 := zCW (zy E) q a g t C o n S) (r := some (.int (wvC g o 5))) 1 (c_X9_whole q a g t C o n S 5 (by omega) hg) gL_isCountSo_X9_whole (q0 := 0) (ci := 7) (by decide +kernel) rfl rfl rfl ⟨by decide, by decide⟩ (Nat.le_of_ble_eq_true rfl) rfl rfl dL_isCountSo_25 ?_ hkR
      refine z_top (nI m) hm ?_
      refine z_if_ne h 35 dL_isCountSo_28 (by decide) (fun c_28 => ?_) (fun c_28 => ?_)
      · refine z_iconst h (nI 0) (by decide +kernel) dL_isCountSo_35 ?_
        refine z_icmp_ne h 68 dL_isCountSo_36 (by decide) (fun c_36 => ?_) (fun c_36 => ?_)
        · exact absurd c_36 (by decide +kernel)
        · refine z_aload_n h 1 rfl dL_isCountSo_39 ?_
          refine z_wV h (As := []) (st := []) (ws2 := zCW (zy E) q a g t (tkC g C) o n S) (r := some (.int (tkC g C 0 1))) 0 (c_X9_winner q a g t C o n S hg hgb) gL_isCountSo_X9_winner (q0 := 0) (ci := 7) (by decide +kernel) rfl rfl rfl ⟨by decide, by decide⟩ (Nat.le_of_ble_eq_true rfl) rfl rfl dL_isCountSo_40 ?_ hkR
          refine z_cast (lv := [(1, .int (nI r)), (0, .ref (q 0))]) (ws := (zCW (zy E) q a g t C o n S)) (st := [.int (tkC g C 0 1)]) ?_ rfl (by rw [hI]) rfl
          refine z_top (nI w) (by rw [hI]; exact hW) ?_
          refine z_iconst h ((-1)) (by decide +kernel) dL_isCountSo_43 ?_
          refine z_icmp_ne h 51 dL_isCountSo_44 (by decide) (fun c_44 => ?_) (fun c_44 => ?_)
          · refine z_iconst h (nI 0) (by decide +kernel) dL_isCountSo_51 ?_
            refine z_iload_n h 0 rfl dL_isCountSo_52 ?_
            refine z_if_ne h 60 dL_isCountSo_53 (by decide) (fun c_53 => ?_) (fun c_53 => ?_)
            · refine z_iconst h (nI 0) (by decide +kernel) dL_isCountSo_60 ?_
              refine z_icmp_ne h 68 dL_isCountSo_61 (by decide) (fun c_61 => ?_) (fun c_61 => ?_)
              · exact absurd c_61 (by decide +kernel)
              · refine z_iconst h (nI 1) (by decide +kernel) dL_isCountSo_64 ?_
                refine z_goto h 69 dL_isCountSo_65 (by decide) ?_
                refine z_istore_n h (by decide) (lv' := [(2, .int (nI 1)), (1, .int (nI r)), (0, .ref (q 0))]) rfl dL_isCountSo_69 ?_
                refine z_iconst h (nI 0) (by decide +kernel) dL_isCountSo_70 ?_
                refine z_istore_n h (by decide) (lv' := [(3, .int (nI 0)), (2, .int (nI 1)), (1, .int (nI r)), (0, .ref (q 0))]) rfl dL_isCountSo_71 ?_
                have lp_72 : ∀ (d_72 r9 : Nat), r < r9 + d_72 → r9 ≤ r → Z E 0 0 [(0, .ref (q 0)), (1, .int (nI r)), (2, .int (nI 1)), (3, .int (nI r9))] (zCW (zy E) q a g t C o n S) 72 [] := by
                  intro d_72
                  induction d_72 with
                  | zero => intro r9  q1 q2; omega
                  | succ d_72 ih_72 =>
                    intro r9  q1_72 q2_72 
                    refine z_iload_n h 3 rfl dL_isCountSo_72 ?_
                    refine z_iload_n h 1 rfl dL_isCountSo_73 ?_
                    refine z_icmp_ge h 185 dL_isCountSo_74 (by decide) (fun c_74 => ?_) (fun c_74 => ?_)
                    · have k_74 : r ≤ r9 := (nI_leI (by omega) (by omega)).mp c_74
                      obtain rfl : r = r9 := by omega
                      refine z_iload_n h 2 rfl dL_isCountSo_185 ?_
                      refine z_if_eq h 212 dL_isCountSo_186 (by decide) (fun c_186 => ?_) (fun c_186 => ?_)
                      · exact absurd c_186 (by decide +kernel)
                      · refine z_iload_n h 1 rfl dL_isCountSo_189 ?_
                        refine z_if_eq h 208 dL_isCountSo_190 (by decide) (fun c_190 => ?_) (fun c_190 => ?_)
                        · exact absurd c_190 (nI_nz h1 (by omega))
                        · refine z_aload_n h 0 rfl dL_isCountSo_193 ?_
                          refine z_iload_n h 1 rfl dL_isCountSo_194 ?_
                          refine z_iconst h (nI 1) (by decide +kernel) dL_isCountSo_195 ?_
                          refine z_isub h dL_isCountSo_196 ?_
                          refine z_top (nI (r - 1)) (pk_sub h1) ?_
                          refine z_aload_n h 0 rfl dL_isCountSo_197 ?_
                          refine z_wV h (As := []) (st := [.int (nI (r - 1)), .ref (q 0)]) (ws2 := zCW (zy E) q a g t (tkC g C) o n S) (r := some (.int (tkC g C 0 1))) 0 (c_X9_winner q a g t C o n S hg hgb) gL_isCountSo_X9_winner (q0 := 0) (ci := 7) (by decide +kernel) rfl rfl rfl ⟨by decide, by decide⟩ (Nat.le_of_ble_eq_true rfl) rfl rfl dL_isCountSo_198 ?_ hkR
                          refine z_cast (lv := [(0, .ref (q 0)), (1, .int (nI r)), (2, .int (nI 1)), (3, .int (nI r))]) (ws := (zCW (zy E) q a g t C o n S)) (st := [.int (tkC g C 0 1), .int (nI (r - 1)), .ref (q 0)]) ?_ rfl (by rw [hI]) rfl
                          refine z_top (nI w) (by rw [hI]; exact hW) ?_
                          refine z_wV h (As := [.int (nI (r - 1)), .int (nI w)]) (st := []) (ws2 := zCW (zy E) q a g t (tkC g C) o n S) (r := some (.int (vsC g C (r - 1) w))) 2 (c_X9_votes q a g t C o n S (r - 1) w (by omega) (by omega) hg hgb (si_8 _ (by omega))) gL_isCountSo_X9_votes (q0 := 0) (ci := 7) (by decide +kernel) rfl rfl rfl ⟨by decide, by decide⟩ (Nat.le_of_ble_eq_true rfl) rfl rfl dL_isCountSo_201 ?_ hkR
                          refine z_cast (lv := [(0, .ref (q 0)), (1, .int (nI r)), (2, .int (nI 1)), (3, .int (nI r))]) (ws := (zCW (zy E) q a g t C o n S)) (st := [.int (vsC g C (r - 1) w)]) ?_ rfl (by rw [hI]) rfl
                          refine z_iconst h ((-1)) (by decide +kernel) dL_isCountSo_204 ?_
                          refine z_icmp_eq h 212 dL_isCountSo_205 (by decide) (fun c_205 => ?_) (fun c_205 => ?_)
                          · exact absurd c_205 hlast
                          · refine z_iconst h (nI 1) (by decide +kernel) dL_isCountSo_208 ?_
                            refine z_goto h 213 dL_isCountSo_209 (by decide) ?_
                            exact z_zret h hf rfl rfl rfl rfl dL_isCountSo_213
                    · have k_74 : ¬ (r ≤ r9) := fun q => c_74 ((nI_leI (by omega) (by omega)).mpr q)
                      refine z_iconst h (nI 0) (by decide +kernel) dL_isCountSo_77 ?_
                      refine z_istore h (by decide) (lv' := [(4, .int (nI 0)), (0, .ref (q 0)), (1, .int (nI r)), (2, .int (nI 1)), (3, .int (nI r9))]) rfl dL_isCountSo_78 ?_
                      refine z_iconst h (nI 0) (by decide +kernel) dL_isCountSo_80 ?_
                      refine z_istore h (by decide) (lv' := [(5, .int (nI 0)), (4, .int (nI 0)), (0, .ref (q 0)), (1, .int (nI r)), (2, .int (nI 1)), (3, .int (nI r9))]) rfl dL_isCountSo_81 ?_
                      refine z_iconst h (nI 0) (by decide +kernel) dL_isCountSo_83 ?_
                      refine z_istore h (by decide) (lv' := [(6, .int (nI 0)), (5, .int (nI 0)), (4, .int (nI 0)), (0, .ref (q 0)), (1, .int (nI r)), (2, .int (nI 1)), (3, .int (nI r9))]) rfl dL_isCountSo_84 ?_
                      have lp_86 : ∀ (d_86 s9 : Nat), 8 < s9 + d_86 → s9 ≤ 8 → Z E 0 0 [(0, .ref (q 0)), (1, .int (nI r)), (2, .int (nI 1)), (3, .int (nI r9)), (4, .int (sgI (fun s => vsC g C r9 s) s9)), (5, .int (stI (fun s => vsC g C r9 s) s9)), (6, .int (nI s9))] (zCW (zy E) q a g t C o n S) 86 [] := by
                        intro d_86
                        induction d_86 with
                        | zero => intro s9  q1 q2; omega
                        | succ d_86 ih_86 =>
                          intro s9  q1_86 q2_86 
                          refine z_iload h 6 rfl dL_isCountSo_86 ?_
                          refine z_bipush h (nI 8) (by decide +kernel) dL_isCountSo_88 ?_
                          refine z_icmp_ge h 146 dL_isCountSo_90 (by decide) (fun c_90 => ?_) (fun c_90 => ?_)
                          · have k_90 : 8 ≤ s9 := (nI_leI (by omega) (by omega)).mp c_90
                            obtain rfl : s9 = 8 := by omega
                            refine z_iload_n h 2 rfl dL_isCountSo_146 ?_
                            refine z_if_eq h 177 dL_isCountSo_147 (by decide) (fun c_147 => ?_) (fun c_147 => ?_)
                            · exact absurd c_147 (by decide +kernel)
                            · refine z_iload h 4 rfl dL_isCountSo_150 ?_
                              refine z_aload_n h 0 rfl dL_isCountSo_152 ?_
                              refine z_bipush h (nI 14) (by decide +kernel) dL_isCountSo_153 ?_
                              refine z_wV h (As := [.int (nI 14)]) (st := [.int (sgI (fun s => vsC g C r9 s) 8)]) (ws2 := zCW (zy E) q a g t C o n S) (r := some (.int (wvC g o 14))) 1 (c_X9_whole q a g t C o n S 14 (by omega) hg) gL_isCountSo_X9_whole (q0 := 0) (ci := 7) (by decide +kernel) rfl rfl rfl ⟨by decide, by decide⟩ (Nat.le_of_ble_eq_true rfl) rfl rfl dL_isCountSo_155 ?_ hkR
                              refine z_icmp_gt h 177 dL_isCountSo_158 (by decide) (fun c_158 => ?_) (fun c_158 => ?_)
                              · exact absurd c_158 (Int32.not_lt.mpr (hsg r9 (by omega)))
                              · refine z_iload h 5 rfl dL_isCountSo_161 ?_
                                refine z_aload_n h 0 rfl dL_isCountSo_163 ?_
                                refine z_iconst h (nI 5) (by decide +kernel) dL_isCountSo_164 ?_
                                refine z_wV h (As := [.int (nI 5)]) (st := [.int (stI (fun s => vsC g C r9 s) 8)]) (ws2 := zCW (zy E) q a g t C o n S) (r := some (.int (wvC g o 5))) 1 (c_X9_whole q a g t C o n S 5 (by omega) hg) gL_isCountSo_X9_whole (q0 := 0) (ci := 7) (by decide +kernel) rfl rfl rfl ⟨by decide, by decide⟩ (Nat.le_of_ble_eq_true rfl) rfl rfl dL_isCountSo_165 ?_ hkR
                                refine z_top (nI m) hm ?_
                                refine z_iload_n h 3 rfl dL_isCountSo_168 ?_
                                refine z_isub h dL_isCountSo_169 ?_
                                refine z_icmp_ne h 177 dL_isCountSo_170 (by decide) (fun c_170 => ?_) (fun c_170 => ?_)
                                · exact absurd (hst r9 (by omega)) c_170
                                · refine z_iconst h (nI 1) (by decide +kernel) dL_isCountSo_173 ?_
                                  refine z_goto h 178 dL_isCountSo_174 (by decide) ?_
                                  refine z_istore_n h (by decide) (lv' := [(2, .int (nI 1)), (0, .ref (q 0)), (1, .int (nI r)), (3, .int (nI r9)), (4, .int (sgI (fun s => vsC g C r9 s) 8)), (5, .int (stI (fun s => vsC g C r9 s) 8)), (6, .int (nI 8))]) rfl dL_isCountSo_178 ?_
                                  refine z_iinc h 3 (nI (r9 + 1)) rfl z_i1 (by decide) (lv' := [(3, .int (nI (r9 + 1))), (2, .int (nI 1)), (0, .ref (q 0)), (1, .int (nI r)), (4, .int (sgI (fun s => vsC g C r9 s) 8)), (5, .int (stI (fun s => vsC g C r9 s) 8)), (6, .int (nI 8))]) rfl dL_isCountSo_179 ?_
                                  refine z_goto h 72 dL_isCountSo_182 (by decide) ?_
                                  refine z_sub [2, 3, 1, 0] (lv' := [(0, .ref (q 0)), (1, .int (nI r)), (2, .int (nI 1)), (3, .int (nI (r9 + 1)))]) rfl ?_
                                  exact z_cast (ih_72 (r9 + 1) (by omega) (by omega)) rfl rfl rfl
                          · have k_90 : ¬ (8 ≤ s9) := fun q => c_90 ((nI_leI (by omega) (by omega)).mpr q)
                            refine z_iload h 4 rfl dL_isCountSo_93 ?_
                            refine z_aload_n h 0 rfl dL_isCountSo_95 ?_
                            refine z_iload_n h 3 rfl dL_isCountSo_96 ?_
                            refine z_iload h 6 rfl dL_isCountSo_97 ?_
                            refine z_wV h (As := [.int (nI r9), .int (nI s9)]) (st := [.int (sgI (fun s => vsC g C r9 s) s9)]) (ws2 := zCW (zy E) q a g t (tkC g C) o n S) (r := some (.int (vsC g C r9 s9))) 2 (c_X9_votes q a g t C o n S r9 s9 (by omega) (by omega) hg hgb (si_8 _ (by omega))) gL_isCountSo_X9_votes (q0 := 0) (ci := 7) (by decide +kernel) rfl rfl rfl ⟨by decide, by decide⟩ (Nat.le_of_ble_eq_true rfl) rfl rfl dL_isCountSo_99 ?_ hkR
                            refine z_cast (lv := [(0, .ref (q 0)), (1, .int (nI r)), (2, .int (nI 1)), (3, .int (nI r9)), (4, .int (sgI (fun s => vsC g C r9 s) s9)), (5, .int (stI (fun s => vsC g C r9 s) s9)), (6, .int (nI s9))]) (ws := (zCW (zy E) q a g t C o n S)) (st := [.int (vsC g C r9 s9), .int (sgI (fun s => vsC g C r9 s) s9)]) ?_ rfl (by rw [hI]) rfl
                            refine z_if_le h 115 dL_isCountSo_102 (by decide) (fun c_102 => ?_) (fun c_102 => ?_)
                            · refine z_iconst h (nI 0) (by decide +kernel) dL_isCountSo_115 ?_
                              refine z_iadd h dL_isCountSo_116 ?_
                              refine z_istore h (by decide) (lv' := [(4, .int ((sgI (fun s => vsC g C r9 s) s9) + (nI 0))), (0, .ref (q 0)), (1, .int (nI r)), (2, .int (nI 1)), (3, .int (nI r9)), (5, .int (stI (fun s => vsC g C r9 s) s9)), (6, .int (nI s9))]) rfl dL_isCountSo_117 ?_
                              refine z_iload h 5 rfl dL_isCountSo_119 ?_
                              refine z_aload_n h 1 rfl dL_isCountSo_121 ?_
                              refine z_iload_n h 4 rfl dL_isCountSo_122 ?_
                              refine z_iload h 6 rfl dL_isCountSo_123 ?_
                              refine z_wV h (As := [.int (nI r9), .int (nI s9)]) (st := [.int (stI (fun s => vsC g C r9 s) s9)]) (ws2 := zCW (zy E) q a g t (tkC g C) o n S) (r := some (.int (vsC g C r9 s9))) 2 (c_X9_votes q a g t C o n S r9 s9 (by omega) (by omega) hg hgb (si_8 _ (by omega))) gL_isCountSo_X9_votes (q0 := 0) (ci := 7) (by decide +kernel) rfl rfl rfl ⟨by decide, by decide⟩ (Nat.le_of_ble_eq_true rfl) rfl rfl dL_isCountSo_125 ?_ hkR
                              refine z_cast (lv := [(4, .int ((sgI (fun s => vsC g C r9 s) s9) + (nI 0))), (0, .ref (q 0)), (1, .int (nI r)), (2, .int (nI 1)), (3, .int (nI r9)), (5, .int (stI (fun s => vsC g C r9 s) s9)), (6, .int (nI s9))]) (ws := (zCW (zy E) q a g t C o n S)) (st := [.int (vsC g C r9 s9), .int (stI (fun s => vsC g C r9 s) s9)]) ?_ rfl (by rw [hI]) rfl
                              refine z_iconst h ((-1)) (by decide +kernel) dL_isCountSo_128 ?_
                              refine z_icmp_ne h 136 dL_isCountSo_129 (by decide) (fun c_129 => ?_) (fun c_129 => ?_)
                              · refine z_iconst h (nI 1) (by decide +kernel) dL_isCountSo_136 ?_
                                refine z_iadd h dL_isCountSo_137 ?_
                                refine z_istore h (by decide) (lv' := [(5, .int ((stI (fun s => vsC g C r9 s) s9) + (nI 1))), (4, .int ((sgI (fun s => vsC g C r9 s) s9) + (nI 0))), (0, .ref (q 0)), (1, .int (nI r)), (2, .int (nI 1)), (3, .int (nI r9)), (6, .int (nI s9))]) rfl dL_isCountSo_138 ?_
                                refine z_iinc h 6 (nI (s9 + 1)) rfl z_i1 (by decide) (lv' := [(6, .int (nI (s9 + 1))), (5, .int ((stI (fun s => vsC g C r9 s) s9) + (nI 1))), (4, .int ((sgI (fun s => vsC g C r9 s) s9) + (nI 0))), (0, .ref (q 0)), (1, .int (nI r)), (2, .int (nI 1)), (3, .int (nI r9))]) rfl dL_isCountSo_140 ?_
                                refine z_goto h 86 dL_isCountSo_143 (by decide) ?_
                                refine z_sub [3, 4, 5, 6, 2, 1, 0] (lv' := [(0, .ref (q 0)), (1, .int (nI r)), (2, .int (nI 1)), (3, .int (nI r9)), (4, .int ((sgI (fun s => vsC g C r9 s) s9) + (nI 0))), (5, .int ((stI (fun s => vsC g C r9 s) s9) + (nI 1))), (6, .int (nI (s9 + 1)))]) rfl ?_
                                exact z_cast (ih_86 (s9 + 1) (by omega) (by omega)) (by simp only [sgI, stI, if_pos c_102, if_neg c_129]) rfl rfl
                              · refine z_iconst h (nI 0) (by decide +kernel) dL_isCountSo_132 ?_
                                refine z_goto h 137 dL_isCountSo_133 (by decide) ?_
                                refine z_iadd h dL_isCountSo_137 ?_
                                refine z_istore h (by decide) (lv' := [(5, .int ((stI (fun s => vsC g C r9 s) s9) + (nI 0))), (4, .int ((sgI (fun s => vsC g C r9 s) s9) + (nI 0))), (0, .ref (q 0)), (1, .int (nI r)), (2, .int (nI 1)), (3, .int (nI r9)), (6, .int (nI s9))]) rfl dL_isCountSo_138 ?_
                                refine z_iinc h 6 (nI (s9 + 1)) rfl z_i1 (by decide) (lv' := [(6, .int (nI (s9 + 1))), (5, .int ((stI (fun s => vsC g C r9 s) s9) + (nI 0))), (4, .int ((sgI (fun s => vsC g C r9 s) s9) + (nI 0))), (0, .ref (q 0)), (1, .int (nI r)), (2, .int (nI 1)), (3, .int (nI r9))]) rfl dL_isCountSo_140 ?_
                                refine z_goto h 86 dL_isCountSo_143 (by decide) ?_
                                refine z_sub [3, 4, 5, 6, 2, 1, 0] (lv' := [(0, .ref (q 0)), (1, .int (nI r)), (2, .int (nI 1)), (3, .int (nI r9)), (4, .int ((sgI (fun s => vsC g C r9 s) s9) + (nI 0))), (5, .int ((stI (fun s => vsC g C r9 s) s9) + (nI 0))), (6, .int (nI (s9 + 1)))]) rfl ?_
                                exact z_cast (ih_86 (s9 + 1) (by omega) (by omega)) (by simp only [sgI, stI, if_pos c_102, if_pos c_129]) rfl rfl
                            · refine z_aload_n h 0 rfl dL_isCountSo_105 ?_
                              refine z_iload_n h 3 rfl dL_isCountSo_106 ?_
                              refine z_iload h 6 rfl dL_isCountSo_107 ?_
                              refine z_wV h (As := [.int (nI r9), .int (nI s9)]) (st := [.int (sgI (fun s => vsC g C r9 s) s9)]) (ws2 := zCW (zy E) q a g t (tkC g C) o n S) (r := some (.int (vsC g C r9 s9))) 2 (c_X9_votes q a g t C o n S r9 s9 (by omega) (by omega) hg hgb (si_8 _ (by omega))) gL_isCountSo_X9_votes (q0 := 0) (ci := 7) (by decide +kernel) rfl rfl rfl ⟨by decide, by decide⟩ (Nat.le_of_ble_eq_true rfl) rfl rfl dL_isCountSo_109 ?_ hkR
                              refine z_cast (lv := [(0, .ref (q 0)), (1, .int (nI r)), (2, .int (nI 1)), (3, .int (nI r9)), (4, .int (sgI (fun s => vsC g C r9 s) s9)), (5, .int (stI (fun s => vsC g C r9 s) s9)), (6, .int (nI s9))]) (ws := (zCW (zy E) q a g t C o n S)) (st := [.int (vsC g C r9 s9), .int (sgI (fun s => vsC g C r9 s) s9)]) ?_ rfl (by rw [hI]) rfl
                              refine z_goto h 116 dL_isCountSo_112 (by decide) ?_
                              refine z_iadd h dL_isCountSo_116 ?_
                              refine z_istore h (by decide) (lv' := [(4, .int ((sgI (fun s => vsC g C r9 s) s9) + (vsC g C r9 s9))), (0, .ref (q 0)), (1, .int (nI r)), (2, .int (nI 1)), (3, .int (nI r9)), (5, .int (stI (fun s => vsC g C r9 s) s9)), (6, .int (nI s9))]) rfl dL_isCountSo_117 ?_
                              refine z_iload h 5 rfl dL_isCountSo_119 ?_
                              refine z_aload_n h 1 rfl dL_isCountSo_121 ?_
                              refine z_iload_n h 4 rfl dL_isCountSo_122 ?_
                              refine z_iload h 6 rfl dL_isCountSo_123 ?_
                              refine z_wV h (As := [.int (nI r9), .int (nI s9)]) (st := [.int (stI (fun s => vsC g C r9 s) s9)]) (ws2 := zCW (zy E) q a g t (tkC g C) o n S) (r := some (.int (vsC g C r9 s9))) 2 (c_X9_votes q a g t C o n S r9 s9 (by omega) (by omega) hg hgb (si_8 _ (by omega))) gL_isCountSo_X9_votes (q0 := 0) (ci := 7) (by decide +kernel) rfl rfl rfl ⟨by decide, by decide⟩ (Nat.le_of_ble_eq_true rfl) rfl rfl dL_isCountSo_125 ?_ hkR
                              refine z_cast (lv := [(4, .int ((sgI (fun s => vsC g C r9 s) s9) + (vsC g C r9 s9))), (0, .ref (q 0)), (1, .int (nI r)), (2, .int (nI 1)), (3, .int (nI r9)), (5, .int (stI (fun s => vsC g C r9 s) s9)), (6, .int (nI s9))]) (ws := (zCW (zy E) q a g t C o n S)) (st := [.int (vsC g C r9 s9), .int (stI (fun s => vsC g C r9 s) s9)]) ?_ rfl (by rw [hI]) rfl
                              refine z_iconst h ((-1)) (by decide +kernel) dL_isCountSo_128 ?_
                              refine z_icmp_ne h 136 dL_isCountSo_129 (by decide) (fun c_129 => ?_) (fun c_129 => ?_)
                              · refine z_iconst h (nI 1) (by decide +kernel) dL_isCountSo_136 ?_
                                refine z_iadd h dL_isCountSo_137 ?_
                                refine z_istore h (by decide) (lv' := [(5, .int ((stI (fun s => vsC g C r9 s) s9) + (nI 1))), (4, .int ((sgI (fun s => vsC g C r9 s) s9) + (vsC g C r9 s9))), (0, .ref (q 0)), (1, .int (nI r)), (2, .int (nI 1)), (3, .int (nI r9)), (6, .int (nI s9))]) rfl dL_isCountSo_138 ?_
                                refine z_iinc h 6 (nI (s9 + 1)) rfl z_i1 (by decide) (lv' := [(6, .int (nI (s9 + 1))), (5, .int ((stI (fun s => vsC g C r9 s) s9) + (nI 1))), (4, .int ((sgI (fun s => vsC g C r9 s) s9) + (vsC g C r9 s9))), (0, .ref (q 0)), (1, .int (nI r)), (2, .int (nI 1)), (3, .int (nI r9))]) rfl dL_isCountSo_140 ?_
                                refine z_goto h 86 dL_isCountSo_143 (by decide) ?_
                                refine z_sub [3, 4, 5, 6, 2, 1, 0] (lv' := [(0, .ref (q 0)), (1, .int (nI r)), (2, .int (nI 1)), (3, .int (nI r9)), (4, .int ((sgI (fun s => vsC g C r9 s) s9) + (vsC g C r9 s9))), (5, .int ((stI (fun s => vsC g C r9 s) s9) + (nI 1))), (6, .int (nI (s9 + 1)))]) rfl ?_
                                exact z_cast (ih_86 (s9 + 1) (by omega) (by omega)) (by simp only [sgI, stI, if_neg c_102, if_neg c_129]) rfl rfl
                              · refine z_iconst h (nI 0) (by decide +kernel) dL_isCountSo_132 ?_
                                refine z_goto h 137 dL_isCountSo_133 (by decide) ?_
                                refine z_iadd h dL_isCountSo_137 ?_
                                refine z_istore h (by decide) (lv' := [(5, .int ((stI (fun s => vsC g C r9 s) s9) + (nI 0))), (4, .int ((sgI (fun s => vsC g C r9 s) s9) + (vsC g C r9 s9))), (0, .ref (q 0)), (1, .int (nI r)), (2, .int (nI 1)), (3, .int (nI r9)), (6, .int (nI s9))]) rfl dL_isCountSo_138 ?_
                                refine z_iinc h 6 (nI (s9 + 1)) rfl z_i1 (by decide) (lv' := [(6, .int (nI (s9 + 1))), (5, .int ((stI (fun s => vsC g C r9 s) s9) + (nI 0))), (4, .int ((sgI (fun s => vsC g C r9 s) s9) + (vsC g C r9 s9))), (0, .ref (q 0)), (1, .int (nI r)), (2, .int (nI 1)), (3, .int (nI r9))]) rfl dL_isCountSo_140 ?_
                                refine z_goto h 86 dL_isCountSo_143 (by decide) ?_
                                refine z_sub [3, 4, 5, 6, 2, 1, 0] (lv' := [(0, .ref (q 0)), (1, .int (nI r)), (2, .int (nI 1)), (3, .int (nI r9)), (4, .int ((sgI (fun s => vsC g C r9 s) s9) + (vsC g C r9 s9))), (5, .int ((stI (fun s => vsC g C r9 s) s9) + (nI 0))), (6, .int (nI (s9 + 1)))]) rfl ?_
                                exact z_cast (ih_86 (s9 + 1) (by omega) (by omega)) (by simp only [sgI, stI, if_neg c_102, if_pos c_129]) rfl rfl
                      refine z_sub [3, 4, 5, 6, 2, 1, 0] (lv' := [(0, .ref (q 0)), (1, .int (nI r)), (2, .int (nI 1)), (3, .int (nI r9)), (4, .int (nI 0)), (5, .int (nI 0)), (6, .int (nI 0))]) rfl ?_
                      exact z_cast (lp_86 (8 + 1) 0 (by omega) (by omega)) rfl rfl rfl
                refine z_sub [3, 2, 1, 0] (lv' := [(0, .ref (q 0)), (1, .int (nI r)), (2, .int (nI 1)), (3, .int (nI 0))]) rfl ?_
                exact z_cast (lp_72 (r + 1) 0 (by omega) (by omega)) rfl rfl rfl
            · exact absurd c_53 (nI_nz h1 (by omega))
          · exact absurd c_44 (nI_nm1 (by omega))
      · exact absurd c_28 (nI_nz (by omega) (by omega))
    · exact absurd c_15 (nI_nz h1 (by omega))

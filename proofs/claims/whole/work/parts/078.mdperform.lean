set_option maxHeartbeats 8000000 in
set_option maxRecDepth 100000 in
theorem c_Md_perform (l : Launch) (D : va_G) (cI cZ : ClassId) (a : Nat → Nat) (hd : dM a) (m : MS) (pn : Nat) (th : Bool) (hp6 : pn < 6) (hs14 : qSize m pn ≤ 14) (hrng : ∀ i, i < qSize m pn → qOp m (pn * 14 + i) ≤ 21 ∧ qArg m (pn * 14 + i) ≤ 255) : Met l yMd_perform (ce_ws yMd_perform cMd_perform 6 (some .int)) (ce_rm 4) (cm_Pc D cI cZ [.ref (a 0), .int (nI pn), .int (bI th)] (wM a cI cZ m)) (va_Qi (fun r m2 => (r, m2) = mPerf th pn m) (fun m2 t => va_P D vwCl (wM a cI cZ m2) t.heap) (aM a)) 0 0 (aM a) := by
  refine Met.ofW (cc := cMd_perform) (maxL := 6) (ret := (some .int)) (by decide) rfl ?_
  intro p e s mi args below meth c s₁ B hml hv
  obtain ⟨rfl, hP, hK⟩ := hv
  have hx := B.exec
  have hb := B.bytes
  have hr := B.returns
  have hts := atoms_spec (ws := ce_ws yMd_perform cMd_perform 6 (some .int)) B.pre
  have hown : s.vm.findClass RMd = some mi.cls := findClass_of_methodNamed B.named
  have hlocks := B.notSynchronized
  have hS : va_S (aM a) s.heap s.heap [] := va_S.rf
  have hl := lv_entry ([.ref (a 0), .int (nI pn), .int (bI th)]) (n := 6) (Nat.le_of_ble_eq_true rfl)
  rw [lg_entry_eq]
  generalize (lg_sl ([.ref (a 0), .int (nI pn), .int (bI th)]) ++ List.replicate (6 - (lg_sl ([.ref (a 0), .int (nI pn), .int (bI th)])).length) Slot.unset).toArray = ls at hl ⊢
  have hl : lv_has ls 6 [(0, .ref (a 0)), (1, .int (nI pn)), (2, .int (bI th))] := hl
  have tail : ∀ (v : MS) (H : Heap) (locs : List Loc) (ls : Array Slot), v = mLoop th 100000 (mBegin m pn) → va_P D vwCl (wM a cI cZ v) H → va_S (aM a) s.heap H locs → lv_has ls 6 [(0, .ref (a 0)), (1, .int (nI pn)), (2, .int (bI th))] → W p l e (headSpec (ce_ws yMd_perform cMd_perform 6 (some .int)) (ce_rm 4)).room s mi (([.ref (a 0), .int (nI pn), .int (bI th)] : List Value).toArray) below meth c H locs 0 0 (MQ below (va_Qi (fun r m2 => (r, m2) = mPerf th pn m) (fun m2 t => va_P D vwCl (wM a cI cZ m2) t.heap) (aM a)) (([.ref (a 0), .int (nI pn), .int (bI th)] : List Value).toArray) s 0 0 (aM a)) (F0 mi 193 ls []) := by
    intro v H locs ls hv hP hS hl
    refine lv_aload_n hx hb dMd_perform_193 rfl (lv_at hl 0 rfl) ?_
    refine lv_dup hx hb dMd_perform_194 rfl ?_
    refine cm_g hx hb hts hown hK hP 7 (by decide) rfl lMd_130 rfl dMd_perform_195 ?_
    refine lv_iconst (v := 1) hx hb dMd_perform_198 (by decide) ?_
    refine lv_iadd hx hb dMd_perform_199 ?_
    refine cm_pRuns (x := (qRuns v) + 1) hx hb hts hown hK hd hP hS lMd_130 dMd_perform_200 (fun H locs hP hS => ?_)
    refine lv_iload_n hx hb dMd_perform_203 rfl (lv_at hl 2 rfl) ?_
    refine lv_if_eq (tgt := 217) hx hb dMd_perform_204 (by decide) (fun c_1 => ?_) (fun c_1 => ?_)
    · -- 204 taken
      refine lv_aload_n hx hb dMd_perform_217 rfl (lv_at hl 0 rfl) ?_
      refine cm_g hx hb hts hown hK hP 22 (by decide) rfl lMd_52 rfl dMd_perform_218 ?_
      refine lv_topi (fun y_2 ey_2 => ?_)
      obtain rfl : y_2 = qTr v := ey_2.trans (by rw [qTr_zRuns])
      refine lv_if_lt (tgt := 234) hx hb dMd_perform_221 (by decide) (fun c_3 => ?_) (fun c_3 => ?_)
      · -- 221 taken
        refine lv_aload_n hx hb dMd_perform_234 rfl (lv_at hl 0 rfl) ?_
        refine cm_g hx hb hts hown hK hP 22 (by decide) rfl lMd_52 rfl dMd_perform_235 ?_
        refine lv_topi (fun y_4 ey_4 => ?_)
        obtain rfl : y_4 = qTr v := ey_4.trans (by rw [qTr_zRuns])
        refine lv_if_lt (tgt := 251) hx hb dMd_perform_238 (by decide) (fun c_5 => ?_) (fun c_5 => ?_)
        · -- 238 taken
          refine lv_iconst (v := 0) hx hb dMd_perform_251 (by decide) ?_
          refine lv_istore_n (lv' := [(3, .int 0), (0, .ref (a 0)), (1, .int (nI pn)), (2, .int (bI th))]) hx hb dMd_perform_252 rfl hl (by decide) rfl (fun ls hl => ?_)
          refine lv_iload_n hx hb dMd_perform_253 rfl (lv_at hl 2 rfl) ?_
          refine lv_bipush (v := 8) hx hb dMd_perform_254 (by decide) ?_
          refine lv_imul hx hb dMd_perform_256 ?_
          refine lv_topi (fun y_6 ey_6 => ?_)
          obtain rfl : y_6 = nI (pn * 8) := ey_6.trans (pk_mul _ 8)
          refine lv_istore (lv' := [(4, .int (nI (pn * 8))), (3, .int 0), (0, .ref (a 0)), (1, .int (nI pn)), (2, .int (bI th))]) hx hb dMd_perform_257 hl (by decide) rfl (fun ls hl => ?_)
          refine lv_aload_n hx hb dMd_perform_259 rfl (lv_at hl 2 rfl) ?_
          refine cm_g hx hb hts hown hK hP 3 (by decide) rfl lMd_19 rfl dMd_perform_260 ?_
          refine lv_iload hx hb dMd_perform_263 (lv_at hl 0 rfl) ?_
          refine lv_iload_n hx hb dMd_perform_265 rfl (lv_at hl 1 rfl) ?_
          refine cm_sTold (i := (pn * 8)) (x := 0) (by omega) hx hb hK hd hP hS dMd_perform_266 (fun H locs hP hS => ?_)
          rw [qTold_zRuns] at hP
          refine lv_aload_n hx hb dMd_perform_267 rfl (lv_at hl 2 rfl) ?_
          refine cm_g hx hb hts hown hK hP 3 (by decide) rfl lMd_19 rfl dMd_perform_268 ?_
          refine lv_iload hx hb dMd_perform_271 (lv_at hl 0 rfl) ?_
          refine lv_iconst (v := 1) hx hb dMd_perform_273 (by decide) ?_
          refine lv_iadd hx hb dMd_perform_274 ?_
          refine lv_topi (fun y_7 ey_7 => ?_)
          obtain rfl : y_7 = nI (pn * 8 + 1) := ey_7.trans (nI_add _ 1)
          refine lv_aload_n hx hb dMd_perform_275 rfl (lv_at hl 2 rfl) ?_
          refine cm_g hx hb hts hown hK hP 18 (by decide) rfl lMd_78 rfl dMd_perform_276 ?_
          refine lv_topi (fun y_8 ey_8 => ?_)
          obtain rfl : y_8 = qAcc v := ey_8.trans (by rw [qAcc_zTold, qAcc_zRuns])
          refine cm_sTold (i := (pn * 8 + 1)) (x := qAcc v) (by omega) hx hb hK hd hP hS dMd_perform_279 (fun H locs hP hS => ?_)
          rw [qTold_zTold] at hP
          rw [zTold_zTold] at hP
          refine lv_aload_n hx hb dMd_perform_280 rfl (lv_at hl 2 rfl) ?_
          refine cm_g hx hb hts hown hK hP 3 (by decide) rfl lMd_19 rfl dMd_perform_281 ?_
          refine lv_iload hx hb dMd_perform_284 (lv_at hl 0 rfl) ?_
          refine lv_iconst (v := 2) hx hb dMd_perform_286 (by decide) ?_
          refine lv_iadd hx hb dMd_perform_287 ?_
          refine lv_topi (fun y_9 ey_9 => ?_)
          obtain rfl : y_9 = nI (pn * 8 + 2) := ey_9.trans (nI_add _ 2)
          refine lv_aload_n hx hb dMd_perform_288 rfl (lv_at hl 2 rfl) ?_
          refine cm_g hx hb hts hown hK hP 19 (by decide) rfl lMd_112 rfl dMd_perform_289 ?_
          refine lv_topi (fun y_10 ey_10 => ?_)
          obtain rfl : y_10 = qSteps v := ey_10.trans (by rw [qSteps_zTold, qSteps_zRuns])
          refine cm_sTold (i := (pn * 8 + 2)) (x := qSteps v) (by omega) hx hb hK hd hP hS dMd_perform_292 (fun H locs hP hS => ?_)
          rw [qTold_zTold] at hP
          rw [zTold_zTold] at hP
          refine lv_aload_n hx hb dMd_perform_293 rfl (lv_at hl 2 rfl) ?_
          refine cm_g hx hb hts hown hK hP 3 (by decide) rfl lMd_19 rfl dMd_perform_294 ?_
          refine lv_iload hx hb dMd_perform_297 (lv_at hl 0 rfl) ?_
          refine lv_iconst (v := 3) hx hb dMd_perform_299 (by decide) ?_
          refine lv_iadd hx hb dMd_perform_300 ?_
          refine lv_topi (fun y_11 ey_11 => ?_)
          obtain rfl : y_11 = nI (pn * 8 + 3) := ey_11.trans (nI_add _ 3)
          refine lv_aload_n hx hb dMd_perform_301 rfl (lv_at hl 2 rfl) ?_
          refine cm_g hx hb hts hown hK hP 20 (by decide) rfl lMd_75 rfl dMd_perform_302 ?_
          refine lv_topi (fun y_12 ey_12 => ?_)
          obtain rfl : y_12 = qFin v := ey_12.trans (by rw [qFin_zTold, qFin_zRuns])
          refine cm_sTold (i := (pn * 8 + 3)) (x := qFin v) (by omega) hx hb hK hd hP hS dMd_perform_305 (fun H locs hP hS => ?_)
          rw [qTold_zTold] at hP
          rw [zTold_zTold] at hP
          refine lv_aload_n hx hb dMd_perform_306 rfl (lv_at hl 2 rfl) ?_
          refine cm_g hx hb hts hown hK hP 3 (by decide) rfl lMd_19 rfl dMd_perform_307 ?_
          refine lv_iload hx hb dMd_perform_310 (lv_at hl 0 rfl) ?_
          refine lv_iconst (v := 4) hx hb dMd_perform_312 (by decide) ?_
          refine lv_iadd hx hb dMd_perform_313 ?_
          refine lv_topi (fun y_13 ey_13 => ?_)
          obtain rfl : y_13 = nI (pn * 8 + 4) := ey_13.trans (nI_add _ 4)
          refine lv_aload_n hx hb dMd_perform_314 rfl (lv_at hl 2 rfl) ?_
          refine cm_g hx hb hts hown hK hP 21 (by decide) rfl lMd_88 rfl dMd_perform_315 ?_
          refine lv_topi (fun y_14 ey_14 => ?_)
          obtain rfl : y_14 = qCat v := ey_14.trans (by rw [qCat_zTold, qCat_zRuns])
          refine cm_sTold (i := (pn * 8 + 4)) (x := qCat v) (by omega) hx hb hK hd hP hS dMd_perform_318 (fun H locs hP hS => ?_)
          rw [qTold_zTold] at hP
          rw [zTold_zTold] at hP
          refine lv_aload_n hx hb dMd_perform_319 rfl (lv_at hl 2 rfl) ?_
          refine cm_g hx hb hts hown hK hP 3 (by decide) rfl lMd_19 rfl dMd_perform_320 ?_
          refine lv_iload hx hb dMd_perform_323 (lv_at hl 0 rfl) ?_
          refine lv_iconst (v := 5) hx hb dMd_perform_325 (by decide) ?_
          refine lv_iadd hx hb dMd_perform_326 ?_
          refine lv_topi (fun y_15 ey_15 => ?_)
          obtain rfl : y_15 = nI (pn * 8 + 5) := ey_15.trans (nI_add _ 5)
          refine lv_aload_n hx hb dMd_perform_327 rfl (lv_at hl 2 rfl) ?_
          refine cm_g hx hb hts hown hK hP 22 (by decide) rfl lMd_52 rfl dMd_perform_328 ?_
          refine lv_topi (fun y_16 ey_16 => ?_)
          obtain rfl : y_16 = qTr v := ey_16.trans (by rw [qTr_zTold, qTr_zRuns])
          refine lv_if_lt (tgt := 341) hx hb dMd_perform_331 (by decide) (fun c_17 => ?_) (fun c_17 => ?_)
          · -- 331 taken
            refine lv_iconst (v := (-1)) hx hb dMd_perform_341 (by decide) ?_
            refine cm_sTold (i := (pn * 8 + 5)) (x := (-1)) (by omega) hx hb hK hd hP hS dMd_perform_342 (fun H locs hP hS => ?_)
            rw [qTold_zTold] at hP
            rw [zTold_zTold] at hP
            refine lv_aload_n hx hb dMd_perform_343 rfl (lv_at hl 2 rfl) ?_
            refine cm_g hx hb hts hown hK hP 3 (by decide) rfl lMd_19 rfl dMd_perform_344 ?_
            refine lv_iload hx hb dMd_perform_347 (lv_at hl 0 rfl) ?_
            refine lv_bipush (v := 6) hx hb dMd_perform_349 (by decide) ?_
            refine lv_iadd hx hb dMd_perform_351 ?_
            refine lv_topi (fun y_18 ey_18 => ?_)
            obtain rfl : y_18 = nI (pn * 8 + 6) := ey_18.trans (nI_add _ 6)
            refine lv_aload_n hx hb dMd_perform_352 rfl (lv_at hl 2 rfl) ?_
            refine cm_g hx hb hts hown hK hP 22 (by decide) rfl lMd_52 rfl dMd_perform_353 ?_
            refine lv_topi (fun y_19 ey_19 => ?_)
            obtain rfl : y_19 = qTr v := ey_19.trans (by rw [qTr_zTold, qTr_zRuns])
            refine lv_bipush (v := 10) hx hb dMd_perform_356 (by decide) ?_
            refine lv_icmp_ne (tgt := 368) hx hb dMd_perform_358 (by decide) (fun c_20 => ?_) (fun c_20 => ?_)
            · -- 358 taken
              refine lv_iconst (v := (-1)) hx hb dMd_perform_368 (by decide) ?_
              refine cm_sTold (i := (pn * 8 + 6)) (x := (-1)) (by omega) hx hb hK hd hP hS dMd_perform_369 (fun H locs hP hS => ?_)
              rw [qTold_zTold] at hP
              rw [zTold_zTold] at hP
              refine lv_aload_n hx hb dMd_perform_370 rfl (lv_at hl 2 rfl) ?_
              refine cm_g hx hb hts hown hK hP 3 (by decide) rfl lMd_19 rfl dMd_perform_371 ?_
              refine lv_iload hx hb dMd_perform_374 (lv_at hl 0 rfl) ?_
              refine lv_bipush (v := 7) hx hb dMd_perform_376 (by decide) ?_
              refine lv_iadd hx hb dMd_perform_378 ?_
              refine lv_topi (fun y_21 ey_21 => ?_)
              obtain rfl : y_21 = nI (pn * 8 + 7) := ey_21.trans (nI_add _ 7)
              refine lv_aload_n hx hb dMd_perform_379 rfl (lv_at hl 2 rfl) ?_
              refine cm_g hx hb hts hown hK hP 25 (by decide) rfl lMd_95 rfl dMd_perform_380 ?_
              refine lv_topi (fun y_22 ey_22 => ?_)
              obtain rfl : y_22 = bI (qMark v) := ey_22.trans (by rw [qMark_zTold, qMark_zRuns])
              refine lv_if_eq (tgt := 390) hx hb dMd_perform_383 (by decide) (fun c_23 => ?_) (fun c_23 => ?_)
              · -- 383 taken
                refine lv_iconst (v := 0) hx hb dMd_perform_390 (by decide) ?_
                refine cm_sTold (i := (pn * 8 + 7)) (x := 0) (by omega) hx hb hK hd hP hS dMd_perform_391 (fun H locs hP hS => ?_)
                rw [qTold_zTold] at hP
                rw [zTold_zTold] at hP
                refine lv_iconst (v := 0) hx hb dMd_perform_392 (by decide) ?_
                refine lv_istore (lv' := [(5, .int 0), (4, .int (nI (pn * 8))), (3, .int 0), (0, .ref (a 0)), (1, .int (nI pn)), (2, .int (bI th))]) hx hb dMd_perform_393 hl (by decide) rfl (fun ls hl => ?_)
                generalize hU : zTold (zRuns v ((qRuns v) + 1)) (upd (upd (upd (upd (upd (upd (upd (upd (qTold v) (pn * 8) 0) (pn * 8 + 1) (qAcc v)) (pn * 8 + 2) (qSteps v)) (pn * 8 + 3) (qFin v)) (pn * 8 + 4) (qCat v)) (pn * 8 + 5) (-1)) (pn * 8 + 6) (-1)) (pn * 8 + 7) 0) = g1 at hP
                have loop5 : ∀ (n j : Nat) (f : Nat → Int32) (H : Heap) (locs : List Loc) (ls : Array Slot), j + n = 8 → (∀ i, i < j → f (pn * 8 + i) = qCell g1 i) → (∀ q, (q < pn * 8 ∨ pn * 8 + 8 ≤ q) → f q = qCls g1 q) → va_P D vwCl (wM a cI cZ (zCls g1 f)) H → va_S (aM a) s.heap H locs → lv_has ls 6 [(0, .ref (a 0)), (1, .int (nI pn)), (3, .int 0), (4, .int (nI (pn * 8))), (5, .int (nI j))] → W p l e (headSpec (ce_ws yMd_perform cMd_perform 6 (some .int)) (ce_rm 4)).room s mi (([.ref (a 0), .int (nI pn), .int (bI th)] : List Value).toArray) below meth c H locs 0 0 (MQ below (va_Qi (fun r m2 => (r, m2) = mPerf th pn m) (fun m2 t => va_P D vwCl (wM a cI cZ m2) t.heap) (aM a)) (([.ref (a 0), .int (nI pn), .int (bI th)] : List Value).toArray) s 0 0 (aM a)) (F0 mi 395 ls []) := by
                  intro n
                  induction n with
                  | zero =>
                    intro j f H locs ls hj hf ho hP hS hl
                    refine lv_iload hx hb dMd_perform_395 (lv_at hl 4 rfl) ?_
                    refine lv_bipush (v := 8) hx hb dMd_perform_397 (by decide) ?_
                    refine lv_icmp_ge (tgt := 425) hx hb dMd_perform_399 (by decide) (fun c_24 => ?_) (fun c_24 => ?_)
                    · -- 399 taken
                      refine lv_aload_n hx hb dMd_perform_425 rfl (lv_at hl 0 rfl) ?_
                      refine cm_g hx hb hts hown hK hP 5 (by decide) rfl lMd_25 rfl dMd_perform_426 ?_
                      refine lv_iload_n hx hb dMd_perform_429 rfl (lv_at hl 1 rfl) ?_
                      refine lv_iconst (v := 1) hx hb dMd_perform_430 (by decide) ?_
                      refine cm_sRan (i := pn) (x := true) (by omega) hx hb hK hd hP hS dMd_perform_431 (fun H locs hP hS => ?_)
                      rw [qRan_zCls] at hP
                      refine lv_iload_n hx hb dMd_perform_432 rfl (lv_at hl 2 rfl) ?_
                      exact W.iret (v := 0) hx hb hr (fun t9 ht hW => ⟨⟨0, zRan (zCls g1 f) (va_up (qRan g1) pn true), rfl, mTail_mk hU hv (mCnt_nn c_3 (bI0 c_1)) (if_pos c_3) (told8 (if_pos c_3) (if_pos c_3) (if_neg c_20) (c_23)) (blk8_of (fun i h => hf i (by omega)) ho), ce_hp ht hP⟩, hS.F ht⟩) hS.2.2 dMd_perform_433
                    · -- 399 not taken
                      exact absurd (nI_le (a := 8) (b := j) (by omega) (by omega)) c_24
                  | succ n ihn =>
                    intro j f H locs ls hj hf ho hP hS hl
                    refine lv_iload hx hb dMd_perform_395 (lv_at hl 4 rfl) ?_
                    refine lv_bipush (v := 8) hx hb dMd_perform_397 (by decide) ?_
                    refine lv_icmp_ge (tgt := 425) hx hb dMd_perform_399 (by decide) (fun c_25 => ?_) (fun c_25 => ?_)
                    · -- 399 taken
                      exact absurd c_25 (nI_ge (a := j) (b := 8) (by omega) (by omega))
                    · -- 399 not taken
                      refine lv_aload_n hx hb dMd_perform_402 rfl (lv_at hl 0 rfl) ?_
                      refine cm_g hx hb hts hown hK hP 4 (by decide) rfl lMd_22 rfl dMd_perform_403 ?_
                      refine lv_iload hx hb dMd_perform_406 (lv_at hl 3 rfl) ?_
                      refine lv_iload hx hb dMd_perform_408 (lv_at hl 4 rfl) ?_
                      refine lv_iadd hx hb dMd_perform_410 ?_
                      refine lv_topi (fun y_26 ey_26 => ?_)
                      obtain rfl : y_26 = nI (pn * 8 + j) := ey_26.trans (nI_add _ _)
                      refine lv_aload_n hx hb dMd_perform_411 rfl (lv_at hl 0 rfl) ?_
                      refine cm_g hx hb hts hown hK hP 14 (by decide) rfl lMd_38 rfl dMd_perform_412 ?_
                      refine lv_iload hx hb dMd_perform_415 (lv_at hl 4 rfl) ?_
                      refine cm_lCell (i := j) (by omega) hx hb hK hP dMd_perform_417 ?_
                      refine lv_topi (fun y_27 ey_27 => ?_)
                      obtain rfl : y_27 = qCell g1 j := ey_27.trans (by rw [qCell_zCls])
                      refine cm_sCls (i := (pn * 8 + j)) (x := qCell g1 j) (by omega) hx hb hK hd hP hS dMd_perform_418 (fun H locs hP hS => ?_)
                      rw [qCls_zCls] at hP
                      rw [zCls_zCls] at hP
                      refine lv_iinc (v := nI (j + 1)) (lv' := [(5, .int (nI (j + 1))), (0, .ref (a 0)), (1, .int (nI pn)), (3, .int 0), (4, .int (nI (pn * 8)))]) hx hb dMd_perform_419 hl (k := 4) rfl (nI_1 j) (by decide) rfl (fun ls hl => ?_)
                      refine lv_goto (tgt := 395) hx hb dMd_perform_422 (by decide) ?_
                      exact ihn (j + 1) (upd f (pn * 8 + j) (qCell g1 j)) _ _ _ (by omega) (b8_inC hf) (b8_out ho (by omega)) hP hS (lv_sub hl [1, 2, 3, 4, 0] rfl)
                exact loop5 8 0 (qCls g1) _ _ _ rfl (fun i h => absurd h (Nat.not_lt_zero i)) (fun _ _ => rfl) (by rw [zCls_self]; exact hP) hS (lv_sub hl [3, 4, 2, 1, 0] rfl)
              · -- 383 not taken
                refine lv_iconst (v := 1) hx hb dMd_perform_386 (by decide) ?_
                refine lv_goto (tgt := 391) hx hb dMd_perform_387 (by decide) ?_
                refine cm_sTold (i := (pn * 8 + 7)) (x := 1) (by omega) hx hb hK hd hP hS dMd_perform_391 (fun H locs hP hS => ?_)
                rw [qTold_zTold] at hP
                rw [zTold_zTold] at hP
                refine lv_iconst (v := 0) hx hb dMd_perform_392 (by decide) ?_
                refine lv_istore (lv' := [(5, .int 0), (4, .int (nI (pn * 8))), (3, .int 0), (0, .ref (a 0)), (1, .int (nI pn)), (2, .int (bI th))]) hx hb dMd_perform_393 hl (by decide) rfl (fun ls hl => ?_)
                generalize hU : zTold (zRuns v ((qRuns v) + 1)) (upd (upd (upd (upd (upd (upd (upd (upd (qTold v) (pn * 8) 0) (pn * 8 + 1) (qAcc v)) (pn * 8 + 2) (qSteps v)) (pn * 8 + 3) (qFin v)) (pn * 8 + 4) (qCat v)) (pn * 8 + 5) (-1)) (pn * 8 + 6) (-1)) (pn * 8 + 7) 1) = g1 at hP
                have loop5 : ∀ (n j : Nat) (f : Nat → Int32) (H : Heap) (locs : List Loc) (ls : Array Slot), j + n = 8 → (∀ i, i < j → f (pn * 8 + i) = qCell g1 i) → (∀ q, (q < pn * 8 ∨ pn * 8 + 8 ≤ q) → f q = qCls g1 q) → va_P D vwCl (wM a cI cZ (zCls g1 f)) H → va_S (aM a) s.heap H locs → lv_has ls 6 [(0, .ref (a 0)), (1, .int (nI pn)), (3, .int 0), (4, .int (nI (pn * 8))), (5, .int (nI j))] → W p l e (headSpec (ce_ws yMd_perform cMd_perform 6 (some .int)) (ce_rm 4)).room s mi (([.ref (a 0), .int (nI pn), .int (bI th)] : List Value).toArray) below meth c H locs 0 0 (MQ below (va_Qi (fun r m2 => (r, m2) = mPerf th pn m) (fun m2 t => va_P D vwCl (wM a cI cZ m2) t.heap) (aM a)) (([.ref (a 0), .int (nI pn), .int (bI th)] : List Value).toArray) s 0 0 (aM a)) (F0 mi 395 ls []) := by
                  intro n
                  induction n with
                  | zero =>
                    intro j f H locs ls hj hf ho hP hS hl
                    refine lv_iload hx hb dMd_perform_395 (lv_at hl 4 rfl) ?_
                    refine lv_bipush (v := 8) hx hb dMd_perform_397 (by decide) ?_
                    refine lv_icmp_ge (tgt := 425) hx hb dMd_perform_399 (by decide) (fun c_28 => ?_) (fun c_28 => ?_)
                    · -- 399 taken
                      refine lv_aload_n hx hb dMd_perform_425 rfl (lv_at hl 0 rfl) ?_
                      refine cm_g hx hb hts hown hK hP 5 (by decide) rfl lMd_25 rfl dMd_perform_426 ?_
                      refine lv_iload_n hx hb dMd_perform_429 rfl (lv_at hl 1 rfl) ?_
                      refine lv_iconst (v := 1) hx hb dMd_perform_430 (by decide) ?_
                      refine cm_sRan (i := pn) (x := true) (by omega) hx hb hK hd hP hS dMd_perform_431 (fun H locs hP hS => ?_)
                      rw [qRan_zCls] at hP
                      refine lv_iload_n hx hb dMd_perform_432 rfl (lv_at hl 2 rfl) ?_
                      exact W.iret (v := 0) hx hb hr (fun t9 ht hW => ⟨⟨0, zRan (zCls g1 f) (va_up (qRan g1) pn true), rfl, mTail_mk hU hv (mCnt_nn c_3 (bI0 c_1)) (if_pos c_3) (told8 (if_pos c_3) (if_pos c_3) (if_neg c_20) ((bI_one c_23).symm)) (blk8_of (fun i h => hf i (by omega)) ho), ce_hp ht hP⟩, hS.F ht⟩) hS.2.2 dMd_perform_433
                    · -- 399 not taken
                      exact absurd (nI_le (a := 8) (b := j) (by omega) (by omega)) c_28
                  | succ n ihn =>
                    intro j f H locs ls hj hf ho hP hS hl
                    refine lv_iload hx hb dMd_perform_395 (lv_at hl 4 rfl) ?_
                    refine lv_bipush (v := 8) hx hb dMd_perform_397 (by decide) ?_
                    refine lv_icmp_ge (tgt := 425) hx hb dMd_perform_399 (by decide) (fun c_29 => ?_) (fun c_29 => ?_)
                    · -- 399 taken
                      exact absurd c_29 (nI_ge (a := j) (b := 8) (by omega) (by omega))
                    · -- 399 not taken
                      refine lv_aload_n hx hb dMd_perform_402 rfl (lv_at hl 0 rfl) ?_
                      refine cm_g hx hb hts hown hK hP 4 (by decide) rfl lMd_22 rfl dMd_perform_403 ?_
                      refine lv_iload hx hb dMd_perform_406 (lv_at hl 3 rfl) ?_
                      refine lv_iload hx hb dMd_perform_408 (lv_at hl 4 rfl) ?_
                      refine lv_iadd hx hb dMd_perform_410 ?_
                      refine lv_topi (fun y_30 ey_30 => ?_)
                      obtain rfl : y_30 = nI (pn * 8 + j) := ey_30.trans (nI_add _ _)
                      refine lv_aload_n hx hb dMd_perform_411 rfl (lv_at hl 0 rfl) ?_
                      refine cm_g hx hb hts hown hK hP 14 (by decide) rfl lMd_38 rfl dMd_perform_412 ?_
                      refine lv_iload hx hb dMd_perform_415 (lv_at hl 4 rfl) ?_
                      refine cm_lCell (i := j) (by omega) hx hb hK hP dMd_perform_417 ?_
                      refine lv_topi (fun y_31 ey_31 => ?_)
                      obtain rfl : y_31 = qCell g1 j := ey_31.trans (by rw [qCell_zCls])
                      refine cm_sCls (i := (pn * 8 + j)) (x := qCell g1 j) (by omega) hx hb hK hd hP hS dMd_perform_418 (fun H locs hP hS => ?_)
                      rw [qCls_zCls] at hP
                      rw [zCls_zCls] at hP
                      refine lv_iinc (v := nI (j + 1)) (lv' := [(5, .int (nI (j + 1))), (0, .ref (a 0)), (1, .int (nI pn)), (3, .int 0), (4, .int (nI (pn * 8)))]) hx hb dMd_perform_419 hl (k := 4) rfl (nI_1 j) (by decide) rfl (fun ls hl => ?_)
                      refine lv_goto (tgt := 395) hx hb dMd_perform_422 (by decide) ?_
                      exact ihn (j + 1) (upd f (pn * 8 + j) (qCell g1 j)) _ _ _ (by omega) (b8_inC hf) (b8_out ho (by omega)) hP hS (lv_sub hl [1, 2, 3, 4, 0] rfl)
                exact loop5 8 0 (qCls g1) _ _ _ rfl (fun i h => absurd h (Nat.not_lt_zero i)) (fun _ _ => rfl) (by rw [zCls_self]; exact hP) hS (lv_sub hl [3, 4, 2, 1, 0] rfl)
            · -- 358 not taken
              refine lv_aload_n hx hb dMd_perform_361 rfl (lv_at hl 2 rfl) ?_
              refine cm_g hx hb hts hown hK hP 23 (by decide) rfl lMd_56 rfl dMd_perform_362 ?_
              refine lv_topi (fun y_32 ey_32 => ?_)
              obtain rfl : y_32 = qNum v := ey_32.trans (by rw [qNum_zTold, qNum_zRuns])
              refine lv_goto (tgt := 369) hx hb dMd_perform_365 (by decide) ?_
              refine cm_sTold (i := (pn * 8 + 6)) (x := qNum v) (by omega) hx hb hK hd hP hS dMd_perform_369 (fun H locs hP hS => ?_)
              rw [qTold_zTold] at hP
              rw [zTold_zTold] at hP
              refine lv_aload_n hx hb dMd_perform_370 rfl (lv_at hl 2 rfl) ?_
              refine cm_g hx hb hts hown hK hP 3 (by decide) rfl lMd_19 rfl dMd_perform_371 ?_
              refine lv_iload hx hb dMd_perform_374 (lv_at hl 0 rfl) ?_
              refine lv_bipush (v := 7) hx hb dMd_perform_376 (by decide) ?_
              refine lv_iadd hx hb dMd_perform_378 ?_
              refine lv_topi (fun y_33 ey_33 => ?_)
              obtain rfl : y_33 = nI (pn * 8 + 7) := ey_33.trans (nI_add _ 7)
              refine lv_aload_n hx hb dMd_perform_379 rfl (lv_at hl 2 rfl) ?_
              refine cm_g hx hb hts hown hK hP 25 (by decide) rfl lMd_95 rfl dMd_perform_380 ?_
              refine lv_topi (fun y_34 ey_34 => ?_)
              obtain rfl : y_34 = bI (qMark v) := ey_34.trans (by rw [qMark_zTold, qMark_zRuns])
              refine lv_if_eq (tgt := 390) hx hb dMd_perform_383 (by decide) (fun c_35 => ?_) (fun c_35 => ?_)
              · -- 383 taken
                refine lv_iconst (v := 0) hx hb dMd_perform_390 (by decide) ?_
                refine cm_sTold (i := (pn * 8 + 7)) (x := 0) (by omega) hx hb hK hd hP hS dMd_perform_391 (fun H locs hP hS => ?_)
                rw [qTold_zTold] at hP
                rw [zTold_zTold] at hP
                refine lv_iconst (v := 0) hx hb dMd_perform_392 (by decide) ?_
                refine lv_istore (lv' := [(5, .int 0), (4, .int (nI (pn * 8))), (3, .int 0), (0, .ref (a 0)), (1, .int (nI pn)), (2, .int (bI th))]) hx hb dMd_perform_393 hl (by decide) rfl (fun ls hl => ?_)
                generalize hU : zTold (zRuns v ((qRuns v) + 1)) (upd (upd (upd (upd (upd (upd (upd (upd (qTold v) (pn * 8) 0) (pn * 8 + 1) (qAcc v)) (pn * 8 + 2) (qSteps v)) (pn * 8 + 3) (qFin v)) (pn * 8 + 4) (qCat v)) (pn * 8 + 5) (-1)) (pn * 8 + 6) (qNum v)) (pn * 8 + 7) 0) = g1 at hP
                have loop5 : ∀ (n j : Nat) (f : Nat → Int32) (H : Heap) (locs : List Loc) (ls : Array Slot), j + n = 8 → (∀ i, i < j → f (pn * 8 + i) = qCell g1 i) → (∀ q, (q < pn * 8 ∨ pn * 8 + 8 ≤ q) → f q = qCls g1 q) → va_P D vwCl (wM a cI cZ (zCls g1 f)) H → va_S (aM a) s.heap H locs → lv_has ls 6 [(0, .ref (a 0)), (1, .int (nI pn)), (3, .int 0), (4, .int (nI (pn * 8))), (5, .int (nI j))] → W p l e (headSpec (ce_ws yMd_perform cMd_perform 6 (some .int)) (ce_rm 4)).room s mi (([.ref (a 0), .int (nI pn), .int (bI th)] : List Value).toArray) below meth c H locs 0 0 (MQ below (va_Qi (fun r m2 => (r, m2) = mPerf th pn m) (fun m2 t => va_P D vwCl (wM a cI cZ m2) t.heap) (aM a)) (([.ref (a 0), .int (nI pn), .int (bI th)] : List Value).toArray) s 0 0 (aM a)) (F0 mi 395 ls []) := by
                  intro n
                  induction n with
                  | zero =>
                    intro j f H locs ls hj hf ho hP hS hl
                    refine lv_iload hx hb dMd_perform_395 (lv_at hl 4 rfl) ?_
                    refine lv_bipush (v := 8) hx hb dMd_perform_397 (by decide) ?_
                    refine lv_icmp_ge (tgt := 425) hx hb dMd_perform_399 (by decide) (fun c_36 => ?_) (fun c_36 => ?_)
                    · -- 399 taken
                      refine lv_aload_n hx hb dMd_perform_425 rfl (lv_at hl 0 rfl) ?_
                      refine cm_g hx hb hts hown hK hP 5 (by decide) rfl lMd_25 rfl dMd_perform_426 ?_
                      refine lv_iload_n hx hb dMd_perform_429 rfl (lv_at hl 1 rfl) ?_
                      refine lv_iconst (v := 1) hx hb dMd_perform_430 (by decide) ?_
                      refine cm_sRan (i := pn) (x := true) (by omega) hx hb hK hd hP hS dMd_perform_431 (fun H locs hP hS => ?_)
                      rw [qRan_zCls] at hP
                      refine lv_iload_n hx hb dMd_perform_432 rfl (lv_at hl 2 rfl) ?_
                      exact W.iret (v := 0) hx hb hr (fun t9 ht hW => ⟨⟨0, zRan (zCls g1 f) (va_up (qRan g1) pn true), rfl, mTail_mk hU hv (mCnt_nn c_3 (bI0 c_1)) (if_pos c_3) (told8 (if_pos c_3) (if_pos c_3) (if_pos c_20) (c_35)) (blk8_of (fun i h => hf i (by omega)) ho), ce_hp ht hP⟩, hS.F ht⟩) hS.2.2 dMd_perform_433
                    · -- 399 not taken
                      exact absurd (nI_le (a := 8) (b := j) (by omega) (by omega)) c_36
                  | succ n ihn =>
                    intro j f H locs ls hj hf ho hP hS hl
                    refine lv_iload hx hb dMd_perform_395 (lv_at hl 4 rfl) ?_
                    refine lv_bipush (v := 8) hx hb dMd_perform_397 (by decide) ?_
                    refine lv_icmp_ge (tgt := 425) hx hb dMd_perform_399 (by decide) (fun c_37 => ?_) (fun c_37 => ?_)
                    · -- 399 taken
                      exact absurd c_37 (nI_ge (a := j) (b := 8) (by omega) (by omega))
                    · -- 399 not taken
                      refine lv_aload_n hx hb dMd_perform_402 rfl (lv_at hl 0 rfl) ?_
                      refine cm_g hx hb hts hown hK hP 4 (by decide) rfl lMd_22 rfl dMd_perform_403 ?_
                      refine lv_iload hx hb dMd_perform_406 (lv_at hl 3 rfl) ?_
                      refine lv_iload hx hb dMd_perform_408 (lv_at hl 4 rfl) ?_
                      refine lv_iadd hx hb dMd_perform_410 ?_
                      refine lv_topi (fun y_38 ey_38 => ?_)
                      obtain rfl : y_38 = nI (pn * 8 + j) := ey_38.trans (nI_add _ _)
                      refine lv_aload_n hx hb dMd_perform_411 rfl (lv_at hl 0 rfl) ?_
                      refine cm_g hx hb hts hown hK hP 14 (by decide) rfl lMd_38 rfl dMd_perform_412 ?_
                      refine lv_iload hx hb dMd_perform_415 (lv_at hl 4 rfl) ?_
                      refine cm_lCell (i := j) (by omega) hx hb hK hP dMd_perform_417 ?_
                      refine lv_topi (fun y_39 ey_39 => ?_)
                      obtain rfl : y_39 = qCell g1 j := ey_39.trans (by rw [qCell_zCls])
                      refine cm_sCls (i := (pn * 8 + j)) (x := qCell g1 j) (by omega) hx hb hK hd hP hS dMd_perform_418 (fun H locs hP hS => ?_)
                      rw [qCls_zCls] at hP
                      rw [zCls_zCls] at hP
                      refine lv_iinc (v := nI (j + 1)) (lv' := [(5, .int (nI (j + 1))), (0, .ref (a 0)), (1, .int (nI pn)), (3, .int 0), (4, .int (nI (pn * 8)))]) hx hb dMd_perform_419 hl (k := 4) rfl (nI_1 j) (by decide) rfl (fun ls hl => ?_)
                      refine lv_goto (tgt := 395) hx hb dMd_perform_422 (by decide) ?_
                      exact ihn (j + 1) (upd f (pn * 8 + j) (qCell g1 j)) _ _ _ (by omega) (b8_inC hf) (b8_out ho (by omega)) hP hS (lv_sub hl [1, 2, 3, 4, 0] rfl)
                exact loop5 8 0 (qCls g1) _ _ _ rfl (fun i h => absurd h (Nat.not_lt_zero i)) (fun _ _ => rfl) (by rw [zCls_self]; exact hP) hS (lv_sub hl [3, 4, 2, 1, 0] rfl)
              · -- 383 not taken
                refine lv_iconst (v := 1) hx hb dMd_perform_386 (by decide) ?_
                refine lv_goto (tgt := 391) hx hb dMd_perform_387 (by decide) ?_
                refine cm_sTold (i := (pn * 8 + 7)) (x := 1) (by omega) hx hb hK hd hP hS dMd_perform_391 (fun H locs hP hS => ?_)
                rw [qTold_zTold] at hP
                rw [zTold_zTold] at hP
                refine lv_iconst (v := 0) hx hb dMd_perform_392 (by decide) ?_
                refine lv_istore (lv' := [(5, .int 0), (4, .int (nI (pn * 8))), (3, .int 0), (0, .ref (a 0)), (1, .int (nI pn)), (2, .int (bI th))]) hx hb dMd_perform_393 hl (by decide) rfl (fun ls hl => ?_)
                generalize hU : zTold (zRuns v ((qRuns v) + 1)) (upd (upd (upd (upd (upd (upd (upd (upd (qTold v) (pn * 8) 0) (pn * 8 + 1) (qAcc v)) (pn * 8 + 2) (qSteps v)) (pn * 8 + 3) (qFin v)) (pn * 8 + 4) (qCat v)) (pn * 8 + 5) (-1)) (pn * 8 + 6) (qNum v)) (pn * 8 + 7) 1) = g1 at hP
                have loop5 : ∀ (n j : Nat) (f : Nat → Int32) (H : Heap) (locs : List Loc) (ls : Array Slot), j + n = 8 → (∀ i, i < j → f (pn * 8 + i) = qCell g1 i) → (∀ q, (q < pn * 8 ∨ pn * 8 + 8 ≤ q) → f q = qCls g1 q) → va_P D vwCl (wM a cI cZ (zCls g1 f)) H → va_S (aM a) s.heap H locs → lv_has ls 6 [(0, .ref (a 0)), (1, .int (nI pn)), (3, .int 0), (4, .int (nI (pn * 8))), (5, .int (nI j))] → W p l e (headSpec (ce_ws yMd_perform cMd_perform 6 (some .int)) (ce_rm 4)).room s mi (([.ref (a 0), .int (nI pn), .int (bI th)] : List Value).toArray) below meth c H locs 0 0 (MQ below (va_Qi (fun r m2 => (r, m2) = mPerf th pn m) (fun m2 t => va_P D vwCl (wM a cI cZ m2) t.heap) (aM a)) (([.ref (a 0), .int (nI pn), .int (bI th)] : List Value).toArray) s 0 0 (aM a)) (F0 mi 395 ls []) := by
                  intro n
                  induction n with
                  | zero =>
                    intro j f H locs ls hj hf ho hP hS hl
                    refine lv_iload hx hb dMd_perform_395 (lv_at hl 4 rfl) ?_
                    refine lv_bipush (v := 8) hx hb dMd_perform_397 (by decide) ?_
                    refine lv_icmp_ge (tgt := 425) hx hb dMd_perform_399 (by decide) (fun c_40 => ?_) (fun c_40 => ?_)
                    · -- 399 taken
                      refine lv_aload_n hx hb dMd_perform_425 rfl (lv_at hl 0 rfl) ?_
                      refine cm_g hx hb hts hown hK hP 5 (by decide) rfl lMd_25 rfl dMd_perform_426 ?_
                      refine lv_iload_n hx hb dMd_perform_429 rfl (lv_at hl 1 rfl) ?_
                      refine lv_iconst (v := 1) hx hb dMd_perform_430 (by decide) ?_
                      refine cm_sRan (i := pn) (x := true) (by omega) hx hb hK hd hP hS dMd_perform_431 (fun H locs hP hS => ?_)
                      rw [qRan_zCls] at hP
                      refine lv_iload_n hx hb dMd_perform_432 rfl (lv_at hl 2 rfl) ?_
                      exact W.iret (v := 0) hx hb hr (fun t9 ht hW => ⟨⟨0, zRan (zCls g1 f) (va_up (qRan g1) pn true), rfl, mTail_mk hU hv (mCnt_nn c_3 (bI0 c_1)) (if_pos c_3) (told8 (if_pos c_3) (if_pos c_3) (if_pos c_20) ((bI_one c_35).symm)) (blk8_of (fun i h => hf i (by omega)) ho), ce_hp ht hP⟩, hS.F ht⟩) hS.2.2 dMd_perform_433
                    · -- 399 not taken
                      exact absurd (nI_le (a := 8) (b := j) (by omega) (by omega)) c_40
                  | succ n ihn =>
                    intro j f H locs ls hj hf ho hP hS hl
                    refine lv_iload hx hb dMd_perform_395 (lv_at hl 4 rfl) ?_
                    refine lv_bipush (v := 8) hx hb dMd_perform_397 (by decide) ?_
                    refine lv_icmp_ge (tgt := 425) hx hb dMd_perform_399 (by decide) (fun c_41 => ?_) (fun c_41 => ?_)
                    · -- 399 taken
                      exact absurd c_41 (nI_ge (a := j) (b := 8) (by omega) (by omega))
                    · -- 399 not taken
                      refine lv_aload_n hx hb dMd_perform_402 rfl (lv_at hl 0 rfl) ?_
                      refine cm_g hx hb hts hown hK hP 4 (by decide) rfl lMd_22 rfl dMd_perform_403 ?_
                      refine lv_iload hx hb dMd_perform_406 (lv_at hl 3 rfl) ?_
                      refine lv_iload hx hb dMd_perform_408 (lv_at hl 4 rfl) ?_
                      refine lv_iadd hx hb dMd_perform_410 ?_
                      refine lv_topi (fun y_42 ey_42 => ?_)
                      obtain rfl : y_42 = nI (pn * 8 + j) := ey_42.trans (nI_add _ _)
                      refine lv_aload_n hx hb dMd_perform_411 rfl (lv_at hl 0 rfl) ?_
                      refine cm_g hx hb hts hown hK hP 14 (by decide) rfl lMd_38 rfl dMd_perform_412 ?_
                      refine lv_iload hx hb dMd_perform_415 (lv_at hl 4 rfl) ?_
                      refine cm_lCell (i := j) (by omega) hx hb hK hP dMd_perform_417 ?_
                      refine lv_topi (fun y_43 ey_43 => ?_)
                      obtain rfl : y_43 = qCell g1 j := ey_43.trans (by rw [qCell_zCls])
                      refine cm_sCls (i := (pn * 8 + j)) (x := qCell g1 j) (by omega) hx hb hK hd hP hS dMd_perform_418 (fun H locs hP hS => ?_)
                      rw [qCls_zCls] at hP
                      rw [zCls_zCls] at hP
                      refine lv_iinc (v := nI (j + 1)) (lv' := [(5, .int (nI (j + 1))), (0, .ref (a 0)), (1, .int (nI pn)), (3, .int 0), (4, .int (nI (pn * 8)))]) hx hb dMd_perform_419 hl (k := 4) rfl (nI_1 j) (by decide) rfl (fun ls hl => ?_)
                      refine lv_goto (tgt := 395) hx hb dMd_perform_422 (by decide) ?_
                      exact ihn (j + 1) (upd f (pn * 8 + j) (qCell g1 j)) _ _ _ (by omega) (b8_inC hf) (b8_out ho (by omega)) hP hS (lv_sub hl [1, 2, 3, 4, 0] rfl)
                exact loop5 8 0 (qCls g1) _ _ _ rfl (fun i h => absurd h (Nat.not_lt_zero i)) (fun _ _ => rfl) (by rw [zCls_self]; exact hP) hS (lv_sub hl [3, 4, 2, 1, 0] rfl)
          · -- 331 not taken
            exact absurd c_3 c_17
        · -- 238 not taken
          exact absurd c_3 c_5
      · -- 221 not taken
        refine lv_aload_n hx hb dMd_perform_224 rfl (lv_at hl 0 rfl) ?_
        refine lv_dup hx hb dMd_perform_225 rfl ?_
        refine cm_g hx hb hts hown hK hP 9 (by decide) rfl lMd_136 rfl dMd_perform_226 ?_
        refine lv_topi (fun y_44 ey_44 => ?_)
        obtain rfl : y_44 = qTrd v := ey_44.trans (by rw [qTrd_zRuns])
        refine lv_iconst (v := 1) hx hb dMd_perform_229 (by decide) ?_
        refine lv_iadd hx hb dMd_perform_230 ?_
        refine cm_pTrd (x := (qTrd v) + 1) hx hb hts hown hK hd hP hS lMd_136 dMd_perform_231 (fun H locs hP hS => ?_)
        refine lv_aload_n hx hb dMd_perform_234 rfl (lv_at hl 0 rfl) ?_
        refine cm_g hx hb hts hown hK hP 22 (by decide) rfl lMd_52 rfl dMd_perform_235 ?_
        refine lv_topi (fun y_45 ey_45 => ?_)
        obtain rfl : y_45 = qTr v := ey_45.trans (by rw [qTr_zTrd, qTr_zRuns])
        refine lv_if_lt (tgt := 251) hx hb dMd_perform_238 (by decide) (fun c_46 => ?_) (fun c_46 => ?_)
        · -- 238 taken
          exact absurd c_46 c_3
        · -- 238 not taken
          refine lv_bipush (v := 100) hx hb dMd_perform_241 (by decide) ?_
          refine lv_aload_n hx hb dMd_perform_243 rfl (lv_at hl 0 rfl) ?_
          refine cm_g hx hb hts hown hK hP 22 (by decide) rfl lMd_52 rfl dMd_perform_244 ?_
          refine lv_topi (fun y_47 ey_47 => ?_)
          obtain rfl : y_47 = qTr v := ey_47.trans (by rw [qTr_zTrd, qTr_zRuns])
          refine lv_iadd hx hb dMd_perform_247 ?_
          refine lv_goto (tgt := 252) hx hb dMd_perform_248 (by decide) ?_
          refine lv_istore_n (lv' := [(3, .int (100 + (qTr v))), (0, .ref (a 0)), (1, .int (nI pn)), (2, .int (bI th))]) hx hb dMd_perform_252 rfl hl (by decide) rfl (fun ls hl => ?_)
          refine lv_iload_n hx hb dMd_perform_253 rfl (lv_at hl 2 rfl) ?_
          refine lv_bipush (v := 8) hx hb dMd_perform_254 (by decide) ?_
          refine lv_imul hx hb dMd_perform_256 ?_
          refine lv_topi (fun y_48 ey_48 => ?_)
          obtain rfl : y_48 = nI (pn * 8) := ey_48.trans (pk_mul _ 8)
          refine lv_istore (lv' := [(4, .int (nI (pn * 8))), (3, .int (100 + (qTr v))), (0, .ref (a 0)), (1, .int (nI pn)), (2, .int (bI th))]) hx hb dMd_perform_257 hl (by decide) rfl (fun ls hl => ?_)
          refine lv_aload_n hx hb dMd_perform_259 rfl (lv_at hl 2 rfl) ?_
          refine cm_g hx hb hts hown hK hP 3 (by decide) rfl lMd_19 rfl dMd_perform_260 ?_
          refine lv_iload hx hb dMd_perform_263 (lv_at hl 0 rfl) ?_
          refine lv_iload_n hx hb dMd_perform_265 rfl (lv_at hl 1 rfl) ?_
          refine cm_sTold (i := (pn * 8)) (x := 100 + (qTr v)) (by omega) hx hb hK hd hP hS dMd_perform_266 (fun H locs hP hS => ?_)
          rw [qTold_zTrd, qTold_zRuns] at hP
          refine lv_aload_n hx hb dMd_perform_267 rfl (lv_at hl 2 rfl) ?_
          refine cm_g hx hb hts hown hK hP 3 (by decide) rfl lMd_19 rfl dMd_perform_268 ?_
          refine lv_iload hx hb dMd_perform_271 (lv_at hl 0 rfl) ?_
          refine lv_iconst (v := 1) hx hb dMd_perform_273 (by decide) ?_
          refine lv_iadd hx hb dMd_perform_274 ?_
          refine lv_topi (fun y_49 ey_49 => ?_)
          obtain rfl : y_49 = nI (pn * 8 + 1) := ey_49.trans (nI_add _ 1)
          refine lv_aload_n hx hb dMd_perform_275 rfl (lv_at hl 2 rfl) ?_
          refine cm_g hx hb hts hown hK hP 18 (by decide) rfl lMd_78 rfl dMd_perform_276 ?_
          refine lv_topi (fun y_50 ey_50 => ?_)
          obtain rfl : y_50 = qAcc v := ey_50.trans (by rw [qAcc_zTold, qAcc_zTrd, qAcc_zRuns])
          refine cm_sTold (i := (pn * 8 + 1)) (x := qAcc v) (by omega) hx hb hK hd hP hS dMd_perform_279 (fun H locs hP hS => ?_)
          rw [qTold_zTold] at hP
          rw [zTold_zTold] at hP
          refine lv_aload_n hx hb dMd_perform_280 rfl (lv_at hl 2 rfl) ?_
          refine cm_g hx hb hts hown hK hP 3 (by decide) rfl lMd_19 rfl dMd_perform_281 ?_
          refine lv_iload hx hb dMd_perform_284 (lv_at hl 0 rfl) ?_
          refine lv_iconst (v := 2) hx hb dMd_perform_286 (by decide) ?_
          refine lv_iadd hx hb dMd_perform_287 ?_
          refine lv_topi (fun y_51 ey_51 => ?_)
          obtain rfl : y_51 = nI (pn * 8 + 2) := ey_51.trans (nI_add _ 2)
          refine lv_aload_n hx hb dMd_perform_288 rfl (lv_at hl 2 rfl) ?_
          refine cm_g hx hb hts hown hK hP 19 (by decide) rfl lMd_112 rfl dMd_perform_289 ?_
          refine lv_topi (fun y_52 ey_52 => ?_)
          obtain rfl : y_52 = qSteps v := ey_52.trans (by rw [qSteps_zTold, qSteps_zTrd, qSteps_zRuns])
          refine cm_sTold (i := (pn * 8 + 2)) (x := qSteps v) (by omega) hx hb hK hd hP hS dMd_perform_292 (fun H locs hP hS => ?_)
          rw [qTold_zTold] at hP
          rw [zTold_zTold] at hP
          refine lv_aload_n hx hb dMd_perform_293 rfl (lv_at hl 2 rfl) ?_
          refine cm_g hx hb hts hown hK hP 3 (by decide) rfl lMd_19 rfl dMd_perform_294 ?_
          refine lv_iload hx hb dMd_perform_297 (lv_at hl 0 rfl) ?_
          refine lv_iconst (v := 3) hx hb dMd_perform_299 (by decide) ?_
          refine lv_iadd hx hb dMd_perform_300 ?_
          refine lv_topi (fun y_53 ey_53 => ?_)
          obtain rfl : y_53 = nI (pn * 8 + 3) := ey_53.trans (nI_add _ 3)
          refine lv_aload_n hx hb dMd_perform_301 rfl (lv_at hl 2 rfl) ?_
          refine cm_g hx hb hts hown hK hP 20 (by decide) rfl lMd_75 rfl dMd_perform_302 ?_
          refine lv_topi (fun y_54 ey_54 => ?_)
          obtain rfl : y_54 = qFin v := ey_54.trans (by rw [qFin_zTold, qFin_zTrd, qFin_zRuns])
          refine cm_sTold (i := (pn * 8 + 3)) (x := qFin v) (by omega) hx hb hK hd hP hS dMd_perform_305 (fun H locs hP hS => ?_)
          rw [qTold_zTold] at hP
          rw [zTold_zTold] at hP
          refine lv_aload_n hx hb dMd_perform_306 rfl (lv_at hl 2 rfl) ?_
          refine cm_g hx hb hts hown hK hP 3 (by decide) rfl lMd_19 rfl dMd_perform_307 ?_
          refine lv_iload hx hb dMd_perform_310 (lv_at hl 0 rfl) ?_
          refine lv_iconst (v := 4) hx hb dMd_perform_312 (by decide) ?_
          refine lv_iadd hx hb dMd_perform_313 ?_
          refine lv_topi (fun y_55 ey_55 => ?_)
          obtain rfl : y_55 = nI (pn * 8 + 4) := ey_55.trans (nI_add _ 4)
          refine lv_aload_n hx hb dMd_perform_314 rfl (lv_at hl 2 rfl) ?_
          refine cm_g hx hb hts hown hK hP 21 (by decide) rfl lMd_88 rfl dMd_perform_315 ?_
          refine lv_topi (fun y_56 ey_56 => ?_)
          obtain rfl : y_56 = qCat v := ey_56.trans (by rw [qCat_zTold, qCat_zTrd, qCat_zRuns])
          refine cm_sTold (i := (pn * 8 + 4)) (x := qCat v) (by omega) hx hb hK hd hP hS dMd_perform_318 (fun H locs hP hS => ?_)
          rw [qTold_zTold] at hP
          rw [zTold_zTold] at hP
          refine lv_aload_n hx hb dMd_perform_319 rfl (lv_at hl 2 rfl) ?_
          refine cm_g hx hb hts hown hK hP 3 (by decide) rfl lMd_19 rfl dMd_perform_320 ?_
          refine lv_iload hx hb dMd_perform_323 (lv_at hl 0 rfl) ?_
          refine lv_iconst (v := 5) hx hb dMd_perform_325 (by decide) ?_
          refine lv_iadd hx hb dMd_perform_326 ?_
          refine lv_topi (fun y_57 ey_57 => ?_)
          obtain rfl : y_57 = nI (pn * 8 + 5) := ey_57.trans (nI_add _ 5)
          refine lv_aload_n hx hb dMd_perform_327 rfl (lv_at hl 2 rfl) ?_
          refine cm_g hx hb hts hown hK hP 22 (by decide) rfl lMd_52 rfl dMd_perform_328 ?_
          refine lv_topi (fun y_58 ey_58 => ?_)
          obtain rfl : y_58 = qTr v := ey_58.trans (by rw [qTr_zTold, qTr_zTrd, qTr_zRuns])
          refine lv_if_lt (tgt := 341) hx hb dMd_perform_331 (by decide) (fun c_59 => ?_) (fun c_59 => ?_)
          · -- 331 taken
            exact absurd c_59 c_3
          · -- 331 not taken
            refine lv_aload_n hx hb dMd_perform_334 rfl (lv_at hl 2 rfl) ?_
            refine cm_g hx hb hts hown hK hP 24 (by decide) rfl lMd_62 rfl dMd_perform_335 ?_
            refine lv_topi (fun y_60 ey_60 => ?_)
            obtain rfl : y_60 = qOrg v := ey_60.trans (by rw [qOrg_zTold, qOrg_zTrd, qOrg_zRuns])
            refine lv_goto (tgt := 342) hx hb dMd_perform_338 (by decide) ?_
            refine cm_sTold (i := (pn * 8 + 5)) (x := qOrg v) (by omega) hx hb hK hd hP hS dMd_perform_342 (fun H locs hP hS => ?_)
            rw [qTold_zTold] at hP
            rw [zTold_zTold] at hP
            refine lv_aload_n hx hb dMd_perform_343 rfl (lv_at hl 2 rfl) ?_
            refine cm_g hx hb hts hown hK hP 3 (by decide) rfl lMd_19 rfl dMd_perform_344 ?_
            refine lv_iload hx hb dMd_perform_347 (lv_at hl 0 rfl) ?_
            refine lv_bipush (v := 6) hx hb dMd_perform_349 (by decide) ?_
            refine lv_iadd hx hb dMd_perform_351 ?_
            refine lv_topi (fun y_61 ey_61 => ?_)
            obtain rfl : y_61 = nI (pn * 8 + 6) := ey_61.trans (nI_add _ 6)
            refine lv_aload_n hx hb dMd_perform_352 rfl (lv_at hl 2 rfl) ?_
            refine cm_g hx hb hts hown hK hP 22 (by decide) rfl lMd_52 rfl dMd_perform_353 ?_
            refine lv_topi (fun y_62 ey_62 => ?_)
            obtain rfl : y_62 = qTr v := ey_62.trans (by rw [qTr_zTold, qTr_zTrd, qTr_zRuns])
            refine lv_bipush (v := 10) hx hb dMd_perform_356 (by decide) ?_
            refine lv_icmp_ne (tgt := 368) hx hb dMd_perform_358 (by decide) (fun c_63 => ?_) (fun c_63 => ?_)
            · -- 358 taken
              refine lv_iconst (v := (-1)) hx hb dMd_perform_368 (by decide) ?_
              refine cm_sTold (i := (pn * 8 + 6)) (x := (-1)) (by omega) hx hb hK hd hP hS dMd_perform_369 (fun H locs hP hS => ?_)
              rw [qTold_zTold] at hP
              rw [zTold_zTold] at hP
              refine lv_aload_n hx hb dMd_perform_370 rfl (lv_at hl 2 rfl) ?_
              refine cm_g hx hb hts hown hK hP 3 (by decide) rfl lMd_19 rfl dMd_perform_371 ?_
              refine lv_iload hx hb dMd_perform_374 (lv_at hl 0 rfl) ?_
              refine lv_bipush (v := 7) hx hb dMd_perform_376 (by decide) ?_
              refine lv_iadd hx hb dMd_perform_378 ?_
              refine lv_topi (fun y_64 ey_64 => ?_)
              obtain rfl : y_64 = nI (pn * 8 + 7) := ey_64.trans (nI_add _ 7)
              refine lv_aload_n hx hb dMd_perform_379 rfl (lv_at hl 2 rfl) ?_
              refine cm_g hx hb hts hown hK hP 25 (by decide) rfl lMd_95 rfl dMd_perform_380 ?_
              refine lv_topi (fun y_65 ey_65 => ?_)
              obtain rfl : y_65 = bI (qMark v) := ey_65.trans (by rw [qMark_zTold, qMark_zTrd, qMark_zRuns])
              refine lv_if_eq (tgt := 390) hx hb dMd_perform_383 (by decide) (fun c_66 => ?_) (fun c_66 => ?_)
              · -- 383 taken
                refine lv_iconst (v := 0) hx hb dMd_perform_390 (by decide) ?_
                refine cm_sTold (i := (pn * 8 + 7)) (x := 0) (by omega) hx hb hK hd hP hS dMd_perform_391 (fun H locs hP hS => ?_)
                rw [qTold_zTold] at hP
                rw [zTold_zTold] at hP
                refine lv_iconst (v := 0) hx hb dMd_perform_392 (by decide) ?_
                refine lv_istore (lv' := [(5, .int 0), (4, .int (nI (pn * 8))), (3, .int (100 + (qTr v))), (0, .ref (a 0)), (1, .int (nI pn)), (2, .int (bI th))]) hx hb dMd_perform_393 hl (by decide) rfl (fun ls hl => ?_)
                generalize hU : zTold (zTrd (zRuns v ((qRuns v) + 1)) ((qTrd v) + 1)) (upd (upd (upd (upd (upd (upd (upd (upd (qTold v) (pn * 8) (100 + (qTr v))) (pn * 8 + 1) (qAcc v)) (pn * 8 + 2) (qSteps v)) (pn * 8 + 3) (qFin v)) (pn * 8 + 4) (qCat v)) (pn * 8 + 5) (qOrg v)) (pn * 8 + 6) (-1)) (pn * 8 + 7) 0) = g1 at hP
                have loop5 : ∀ (n j : Nat) (f : Nat → Int32) (H : Heap) (locs : List Loc) (ls : Array Slot), j + n = 8 → (∀ i, i < j → f (pn * 8 + i) = qCell g1 i) → (∀ q, (q < pn * 8 ∨ pn * 8 + 8 ≤ q) → f q = qCls g1 q) → va_P D vwCl (wM a cI cZ (zCls g1 f)) H → va_S (aM a) s.heap H locs → lv_has ls 6 [(0, .ref (a 0)), (1, .int (nI pn)), (3, .int (100 + (qTr v))), (4, .int (nI (pn * 8))), (5, .int (nI j))] → W p l e (headSpec (ce_ws yMd_perform cMd_perform 6 (some .int)) (ce_rm 4)).room s mi (([.ref (a 0), .int (nI pn), .int (bI th)] : List Value).toArray) below meth c H locs 0 0 (MQ below (va_Qi (fun r m2 => (r, m2) = mPerf th pn m) (fun m2 t => va_P D vwCl (wM a cI cZ m2) t.heap) (aM a)) (([.ref (a 0), .int (nI pn), .int (bI th)] : List Value).toArray) s 0 0 (aM a)) (F0 mi 395 ls []) := by
                  intro n
                  induction n with
                  | zero =>
                    intro j f H locs ls hj hf ho hP hS hl
                    refine lv_iload hx hb dMd_perform_395 (lv_at hl 4 rfl) ?_
                    refine lv_bipush (v := 8) hx hb dMd_perform_397 (by decide) ?_
                    refine lv_icmp_ge (tgt := 425) hx hb dMd_perform_399 (by decide) (fun c_67 => ?_) (fun c_67 => ?_)
                    · -- 399 taken
                      refine lv_aload_n hx hb dMd_perform_425 rfl (lv_at hl 0 rfl) ?_
                      refine cm_g hx hb hts hown hK hP 5 (by decide) rfl lMd_25 rfl dMd_perform_426 ?_
                      refine lv_iload_n hx hb dMd_perform_429 rfl (lv_at hl 1 rfl) ?_
                      refine lv_iconst (v := 1) hx hb dMd_perform_430 (by decide) ?_
                      refine cm_sRan (i := pn) (x := true) (by omega) hx hb hK hd hP hS dMd_perform_431 (fun H locs hP hS => ?_)
                      rw [qRan_zCls] at hP
                      refine lv_iload_n hx hb dMd_perform_432 rfl (lv_at hl 2 rfl) ?_
                      exact W.iret (v := 100 + (qTr v)) hx hb hr (fun t9 ht hW => ⟨⟨100 + (qTr v), zRan (zCls g1 f) (va_up (qRan g1) pn true), rfl, mTail_mk hU hv (mCnt_tn c_3 (bI0 c_1)) (if_neg c_3) (told8 (if_neg c_3) (if_neg c_3) (if_neg c_63) (c_66)) (blk8_of (fun i h => hf i (by omega)) ho), ce_hp ht hP⟩, hS.F ht⟩) hS.2.2 dMd_perform_433
                    · -- 399 not taken
                      exact absurd (nI_le (a := 8) (b := j) (by omega) (by omega)) c_67
                  | succ n ihn =>
                    intro j f H locs ls hj hf ho hP hS hl
                    refine lv_iload hx hb dMd_perform_395 (lv_at hl 4 rfl) ?_
                    refine lv_bipush (v := 8) hx hb dMd_perform_397 (by decide) ?_
                    refine lv_icmp_ge (tgt := 425) hx hb dMd_perform_399 (by decide) (fun c_68 => ?_) (fun c_68 => ?_)
                    · -- 399 taken
                      exact absurd c_68 (nI_ge (a := j) (b := 8) (by omega) (by omega))
                    · -- 399 not taken
                      refine lv_aload_n hx hb dMd_perform_402 rfl (lv_at hl 0 rfl) ?_
                      refine cm_g hx hb hts hown hK hP 4 (by decide) rfl lMd_22 rfl dMd_perform_403 ?_
                      refine lv_iload hx hb dMd_perform_406 (lv_at hl 3 rfl) ?_
                      refine lv_iload hx hb dMd_perform_408 (lv_at hl 4 rfl) ?_
                      refine lv_iadd hx hb dMd_perform_410 ?_
                      refine lv_topi (fun y_69 ey_69 => ?_)
                      obtain rfl : y_69 = nI (pn * 8 + j) := ey_69.trans (nI_add _ _)
                      refine lv_aload_n hx hb dMd_perform_411 rfl (lv_at hl 0 rfl) ?_
                      refine cm_g hx hb hts hown hK hP 14 (by decide) rfl lMd_38 rfl dMd_perform_412 ?_
                      refine lv_iload hx hb dMd_perform_415 (lv_at hl 4 rfl) ?_
                      refine cm_lCell (i := j) (by omega) hx hb hK hP dMd_perform_417 ?_
                      refine lv_topi (fun y_70 ey_70 => ?_)
                      obtain rfl : y_70 = qCell g1 j := ey_70.trans (by rw [qCell_zCls])
                      refine cm_sCls (i := (pn * 8 + j)) (x := qCell g1 j) (by omega) hx hb hK hd hP hS dMd_perform_418 (fun H locs hP hS => ?_)
                      rw [qCls_zCls] at hP
                      rw [zCls_zCls] at hP
                      refine lv_iinc (v := nI (j + 1)) (lv' := [(5, .int (nI (j + 1))), (0, .ref (a 0)), (1, .int (nI pn)), (3, .int (100 + (qTr v))), (4, .int (nI (pn * 8)))]) hx hb dMd_perform_419 hl (k := 4) rfl (nI_1 j) (by decide) rfl (fun ls hl => ?_)
                      refine lv_goto (tgt := 395) hx hb dMd_perform_422 (by decide) ?_
                      exact ihn (j + 1) (upd f (pn * 8 + j) (qCell g1 j)) _ _ _ (by omega) (b8_inC hf) (b8_out ho (by omega)) hP hS (lv_sub hl [1, 2, 3, 4, 0] rfl)
                exact loop5 8 0 (qCls g1) _ _ _ rfl (fun i h => absurd h (Nat.not_lt_zero i)) (fun _ _ => rfl) (by rw [zCls_self]; exact hP) hS (lv_sub hl [3, 4, 2, 1, 0] rfl)
              · -- 383 not taken
                refine lv_iconst (v := 1) hx hb dMd_perform_386 (by decide) ?_
                refine lv_goto (tgt := 391) hx hb dMd_perform_387 (by decide) ?_
                refine cm_sTold (i := (pn * 8 + 7)) (x := 1) (by omega) hx hb hK hd hP hS dMd_perform_391 (fun H locs hP hS => ?_)
                rw [qTold_zTold] at hP
                rw [zTold_zTold] at hP
                refine lv_iconst (v := 0) hx hb dMd_perform_392 (by decide) ?_
                refine lv_istore (lv' := [(5, .int 0), (4, .int (nI (pn * 8))), (3, .int (100 + (qTr v))), (0, .ref (a 0)), (1, .int (nI pn)), (2, .int (bI th))]) hx hb dMd_perform_393 hl (by decide) rfl (fun ls hl => ?_)
                generalize hU : zTold (zTrd (zRuns v ((qRuns v) + 1)) ((qTrd v) + 1)) (upd (upd (upd (upd (upd (upd (upd (upd (qTold v) (pn * 8) (100 + (qTr v))) (pn * 8 + 1) (qAcc v)) (pn * 8 + 2) (qSteps v)) (pn * 8 + 3) (qFin v)) (pn * 8 + 4) (qCat v)) (pn * 8 + 5) (qOrg v)) (pn * 8 + 6) (-1)) (pn * 8 + 7) 1) = g1 at hP
                have loop5 : ∀ (n j : Nat) (f : Nat → Int32) (H : Heap) (locs : List Loc) (ls : Array Slot), j + n = 8 → (∀ i, i < j → f (pn * 8 + i) = qCell g1 i) → (∀ q, (q < pn * 8 ∨ pn * 8 + 8 ≤ q) → f q = qCls g1 q) → va_P D vwCl (wM a cI cZ (zCls g1 f)) H → va_S (aM a) s.heap H locs → lv_has ls 6 [(0, .ref (a 0)), (1, .int (nI pn)), (3, .int (100 + (qTr v))), (4, .int (nI (pn * 8))), (5, .int (nI j))] → W p l e (headSpec (ce_ws yMd_perform cMd_perform 6 (some .int)) (ce_rm 4)).room s mi (([.ref (a 0), .int (nI pn), .int (bI th)] : List Value).toArray) below meth c H locs 0 0 (MQ below (va_Qi (fun r m2 => (r, m2) = mPerf th pn m) (fun m2 t => va_P D vwCl (wM a cI cZ m2) t.heap) (aM a)) (([.ref (a 0), .int (nI pn), .int (bI th)] : List Value).toArray) s 0 0 (aM a)) (F0 mi 395 ls []) := by
                  intro n
                  induction n with
                  | zero =>
                    intro j f H locs ls hj hf ho hP hS hl
                    refine lv_iload hx hb dMd_perform_395 (lv_at hl 4 rfl) ?_
                    refine lv_bipush (v := 8) hx hb dMd_perform_397 (by decide) ?_
                    refine lv_icmp_ge (tgt := 425) hx hb dMd_perform_399 (by decide) (fun c_71 => ?_) (fun c_71 => ?_)
                    · -- 399 taken
                      refine lv_aload_n hx hb dMd_perform_425 rfl (lv_at hl 0 rfl) ?_
                      refine cm_g hx hb hts hown hK hP 5 (by decide) rfl lMd_25 rfl dMd_perform_426 ?_
                      refine lv_iload_n hx hb dMd_perform_429 rfl (lv_at hl 1 rfl) ?_
                      refine lv_iconst (v := 1) hx hb dMd_perform_430 (by decide) ?_
                      refine cm_sRan (i := pn) (x := true) (by omega) hx hb hK hd hP hS dMd_perform_431 (fun H locs hP hS => ?_)
                      rw [qRan_zCls] at hP
                      refine lv_iload_n hx hb dMd_perform_432 rfl (lv_at hl 2 rfl) ?_
                      exact W.iret (v := 100 + (qTr v)) hx hb hr (fun t9 ht hW => ⟨⟨100 + (qTr v), zRan (zCls g1 f) (va_up (qRan g1) pn true), rfl, mTail_mk hU hv (mCnt_tn c_3 (bI0 c_1)) (if_neg c_3) (told8 (if_neg c_3) (if_neg c_3) (if_neg c_63) ((bI_one c_66).symm)) (blk8_of (fun i h => hf i (by omega)) ho), ce_hp ht hP⟩, hS.F ht⟩) hS.2.2 dMd_perform_433
                    · -- 399 not taken
                      exact absurd (nI_le (a := 8) (b := j) (by omega) (by omega)) c_71
                  | succ n ihn =>
                    intro j f H locs ls hj hf ho hP hS hl
                    refine lv_iload hx hb dMd_perform_395 (lv_at hl 4 rfl) ?_
                    refine lv_bipush (v := 8) hx hb dMd_perform_397 (by decide) ?_
                    refine lv_icmp_ge (tgt := 425) hx hb dMd_perform_399 (by decide) (fun c_72 => ?_) (fun c_72 => ?_)
                    · -- 399 taken
                      exact absurd c_72 (nI_ge (a := j) (b := 8) (by omega) (by omega))
                    · -- 399 not taken
                      refine lv_aload_n hx hb dMd_perform_402 rfl (lv_at hl 0 rfl) ?_
                      refine cm_g hx hb hts hown hK hP 4 (by decide) rfl lMd_22 rfl dMd_perform_403 ?_
                      refine lv_iload hx hb dMd_perform_406 (lv_at hl 3 rfl) ?_
                      refine lv_iload hx hb dMd_perform_408 (lv_at hl 4 rfl) ?_
                      refine lv_iadd hx hb dMd_perform_410 ?_
                      refine lv_topi (fun y_73 ey_73 => ?_)
                      obtain rfl : y_73 = nI (pn * 8 + j) := ey_73.trans (nI_add _ _)
                      refine lv_aload_n hx hb dMd_perform_411 rfl (lv_at hl 0 rfl) ?_
                      refine cm_g hx hb hts hown hK hP 14 (by decide) rfl lMd_38 rfl dMd_perform_412 ?_
                      refine lv_iload hx hb dMd_perform_415 (lv_at hl 4 rfl) ?_
                      refine cm_lCell (i := j) (by omega) hx hb hK hP dMd_perform_417 ?_
                      refine lv_topi (fun y_74 ey_74 => ?_)
                      obtain rfl : y_74 = qCell g1 j := ey_74.trans (by rw [qCell_zCls])
                      refine cm_sCls (i := (pn * 8 + j)) (x := qCell g1 j) (by omega) hx hb hK hd hP hS dMd_perform_418 (fun H locs hP hS => ?_)
                      rw [qCls_zCls] at hP
                      rw [zCls_zCls] at hP
                      refine lv_iinc (v := nI (j + 1)) (lv' := [(5, .int (nI (j + 1))), (0, .ref (a 0)), (1, .int (nI pn)), (3, .int (100 + (qTr v))), (4, .int (nI (pn * 8)))]) hx hb dMd_perform_419 hl (k := 4) rfl (nI_1 j) (by decide) rfl (fun ls hl => ?_)
                      refine lv_goto (tgt := 395) hx hb dMd_perform_422 (by decide) ?_
                      exact ihn (j + 1) (upd f (pn * 8 + j) (qCell g1 j)) _ _ _ (by omega) (b8_inC hf) (b8_out ho (by omega)) hP hS (lv_sub hl [1, 2, 3, 4, 0] rfl)
                exact loop5 8 0 (qCls g1) _ _ _ rfl (fun i h => absurd h (Nat.not_lt_zero i)) (fun _ _ => rfl) (by rw [zCls_self]; exact hP) hS (lv_sub hl [3, 4, 2, 1, 0] rfl)
            · -- 358 not taken
              refine lv_aload_n hx hb dMd_perform_361 rfl (lv_at hl 2 rfl) ?_
              refine cm_g hx hb hts hown hK hP 23 (by decide) rfl lMd_56 rfl dMd_perform_362 ?_
              refine lv_topi (fun y_75 ey_75 => ?_)
              obtain rfl : y_75 = qNum v := ey_75.trans (by rw [qNum_zTold, qNum_zTrd, qNum_zRuns])
              refine lv_goto (tgt := 369) hx hb dMd_perform_365 (by decide) ?_
              refine cm_sTold (i := (pn * 8 + 6)) (x := qNum v) (by omega) hx hb hK hd hP hS dMd_perform_369 (fun H locs hP hS => ?_)
              rw [qTold_zTold] at hP
              rw [zTold_zTold] at hP
              refine lv_aload_n hx hb dMd_perform_370 rfl (lv_at hl 2 rfl) ?_
              refine cm_g hx hb hts hown hK hP 3 (by decide) rfl lMd_19 rfl dMd_perform_371 ?_
              refine lv_iload hx hb dMd_perform_374 (lv_at hl 0 rfl) ?_
              refine lv_bipush (v := 7) hx hb dMd_perform_376 (by decide) ?_
              refine lv_iadd hx hb dMd_perform_378 ?_
              refine lv_topi (fun y_76 ey_76 => ?_)
              obtain rfl : y_76 = nI (pn * 8 + 7) := ey_76.trans (nI_add _ 7)
              refine lv_aload_n hx hb dMd_perform_379 rfl (lv_at hl 2 rfl) ?_
              refine cm_g hx hb hts hown hK hP 25 (by decide) rfl lMd_95 rfl dMd_perform_380 ?_
              refine lv_topi (fun y_77 ey_77 => ?_)
              obtain rfl : y_77 = bI (qMark v) := ey_77.trans (by rw [qMark_zTold, qMark_zTrd, qMark_zRuns])
              refine lv_if_eq (tgt := 390) hx hb dMd_perform_383 (by decide) (fun c_78 => ?_) (fun c_78 => ?_)
              · -- 383 taken
                refine lv_iconst (v := 0) hx hb dMd_perform_390 (by decide) ?_
                refine cm_sTold (i := (pn * 8 + 7)) (x := 0) (by omega) hx hb hK hd hP hS dMd_perform_391 (fun H locs hP hS => ?_)
                rw [qTold_zTold] at hP
                rw [zTold_zTold] at hP
                refine lv_iconst (v := 0) hx hb dMd_perform_392 (by decide) ?_
                refine lv_istore (lv' := [(5, .int 0), (4, .int (nI (pn * 8))), (3, .int (100 + (qTr v))), (0, .ref (a 0)), (1, .int (nI pn)), (2, .int (bI th))]) hx hb dMd_perform_393 hl (by decide) rfl (fun ls hl => ?_)
                generalize hU : zTold (zTrd (zRuns v ((qRuns v) + 1)) ((qTrd v) + 1)) (upd (upd (upd (upd (upd (upd (upd (upd (qTold v) (pn * 8) (100 + (qTr v))) (pn * 8 + 1) (qAcc v)) (pn * 8 + 2) (qSteps v)) (pn * 8 + 3) (qFin v)) (pn * 8 + 4) (qCat v)) (pn * 8 + 5) (qOrg v)) (pn * 8 + 6) (qNum v)) (pn * 8 + 7) 0) = g1 at hP
                have loop5 : ∀ (n j : Nat) (f : Nat → Int32) (H : Heap) (locs : List Loc) (ls : Array Slot), j + n = 8 → (∀ i, i < j → f (pn * 8 + i) = qCell g1 i) → (∀ q, (q < pn * 8 ∨ pn * 8 + 8 ≤ q) → f q = qCls g1 q) → va_P D vwCl (wM a cI cZ (zCls g1 f)) H → va_S (aM a) s.heap H locs → lv_has ls 6 [(0, .ref (a 0)), (1, .int (nI pn)), (3, .int (100 + (qTr v))), (4, .int (nI (pn * 8))), (5, .int (nI j))] → W p l e (headSpec (ce_ws yMd_perform cMd_perform 6 (some .int)) (ce_rm 4)).room s mi (([.ref (a 0), .int (nI pn), .int (bI th)] : List Value).toArray) below meth c H locs 0 0 (MQ below (va_Qi (fun r m2 => (r, m2) = mPerf th pn m) (fun m2 t => va_P D vwCl (wM a cI cZ m2) t.heap) (aM a)) (([.ref (a 0), .int (nI pn), .int (bI th)] : List Value).toArray) s 0 0 (aM a)) (F0 mi 395 ls []) := by
                  intro n
                  induction n with
                  | zero =>
                    intro j f H locs ls hj hf ho hP hS hl
                    refine lv_iload hx hb dMd_perform_395 (lv_at hl 4 rfl) ?_
                    refine lv_bipush (v := 8) hx hb dMd_perform_397 (by decide) ?_
                    refine lv_icmp_ge (tgt := 425) hx hb dMd_perform_399 (by decide) (fun c_79 => ?_) (fun c_79 => ?_)
                    · -- 399 taken
                      refine lv_aload_n hx hb dMd_perform_425 rfl (lv_at hl 0 rfl) ?_
                      refine cm_g hx hb hts hown hK hP 5 (by decide) rfl lMd_25 rfl dMd_perform_426 ?_
                      refine lv_iload_n hx hb dMd_perform_429 rfl (lv_at hl 1 rfl) ?_
                      refine lv_iconst (v := 1) hx hb dMd_perform_430 (by decide) ?_
                      refine cm_sRan (i := pn) (x := true) (by omega) hx hb hK hd hP hS dMd_perform_431 (fun H locs hP hS => ?_)
                      rw [qRan_zCls] at hP
                      refine lv_iload_n hx hb dMd_perform_432 rfl (lv_at hl 2 rfl) ?_
                      exact W.iret (v := 100 + (qTr v)) hx hb hr (fun t9 ht hW => ⟨⟨100 + (qTr v), zRan (zCls g1 f) (va_up (qRan g1) pn true), rfl, mTail_mk hU hv (mCnt_tn c_3 (bI0 c_1)) (if_neg c_3) (told8 (if_neg c_3) (if_neg c_3) (if_pos c_63) (c_78)) (blk8_of (fun i h => hf i (by omega)) ho), ce_hp ht hP⟩, hS.F ht⟩) hS.2.2 dMd_perform_433
                    · -- 399 not taken
                      exact absurd (nI_le (a := 8) (b := j) (by omega) (by omega)) c_79
                  | succ n ihn =>
                    intro j f H locs ls hj hf ho hP hS hl
                    refine lv_iload hx hb dMd_perform_395 (lv_at hl 4 rfl) ?_
                    refine lv_bipush (v := 8) hx hb dMd_perform_397 (by decide) ?_
                    refine lv_icmp_ge (tgt := 425) hx hb dMd_perform_399 (by decide) (fun c_80 => ?_) (fun c_80 => ?_)
                    · -- 399 taken
                      exact absurd c_80 (nI_ge (a := j) (b := 8) (by omega) (by omega))
                    · -- 399 not taken
                      refine lv_aload_n hx hb dMd_perform_402 rfl (lv_at hl 0 rfl) ?_
                      refine cm_g hx hb hts hown hK hP 4 (by decide) rfl lMd_22 rfl dMd_perform_403 ?_
                      refine lv_iload hx hb dMd_perform_406 (lv_at hl 3 rfl) ?_
                      refine lv_iload hx hb dMd_perform_408 (lv_at hl 4 rfl) ?_
                      refine lv_iadd hx hb dMd_perform_410 ?_
                      refine lv_topi (fun y_81 ey_81 => ?_)
                      obtain rfl : y_81 = nI (pn * 8 + j) := ey_81.trans (nI_add _ _)
                      refine lv_aload_n hx hb dMd_perform_411 rfl (lv_at hl 0 rfl) ?_
                      refine cm_g hx hb hts hown hK hP 14 (by decide) rfl lMd_38 rfl dMd_perform_412 ?_
                      refine lv_iload hx hb dMd_perform_415 (lv_at hl 4 rfl) ?_
                      refine cm_lCell (i := j) (by omega) hx hb hK hP dMd_perform_417 ?_
                      refine lv_topi (fun y_82 ey_82 => ?_)
                      obtain rfl : y_82 = qCell g1 j := ey_82.trans (by rw [qCell_zCls])
                      refine cm_sCls (i := (pn * 8 + j)) (x := qCell g1 j) (by omega) hx hb hK hd hP hS dMd_perform_418 (fun H locs hP hS => ?_)
                      rw [qCls_zCls] at hP
                      rw [zCls_zCls] at hP
                      refine lv_iinc (v := nI (j + 1)) (lv' := [(5, .int (nI (j + 1))), (0, .ref (a 0)), (1, .int (nI pn)), (3, .int (100 + (qTr v))), (4, .int (nI (pn * 8)))]) hx hb dMd_perform_419 hl (k := 4) rfl (nI_1 j) (by decide) rfl (fun ls hl => ?_)
                      refine lv_goto (tgt := 395) hx hb dMd_perform_422 (by decide) ?_
                      exact ihn (j + 1) (upd f (pn * 8 + j) (qCell g1 j)) _ _ _ (by omega) (b8_inC hf) (b8_out ho (by omega)) hP hS (lv_sub hl [1, 2, 3, 4, 0] rfl)
                exact loop5 8 0 (qCls g1) _ _ _ rfl (fun i h => absurd h (Nat.not_lt_zero i)) (fun _ _ => rfl) (by rw [zCls_self]; exact hP) hS (lv_sub hl [3, 4, 2, 1, 0] rfl)
              · -- 383 not taken
                refine lv_iconst (v := 1) hx hb dMd_perform_386 (by decide) ?_
                refine lv_goto (tgt := 391) hx hb dMd_perform_387 (by decide) ?_
                refine cm_sTold (i := (pn * 8 + 7)) (x := 1) (by omega) hx hb hK hd hP hS dMd_perform_391 (fun H locs hP hS => ?_)
                rw [qTold_zTold] at hP
                rw [zTold_zTold] at hP
                refine lv_iconst (v := 0) hx hb dMd_perform_392 (by decide) ?_
                refine lv_istore (lv' := [(5, .int 0), (4, .int (nI (pn * 8))), (3, .int (100 + (qTr v))), (0, .ref (a 0)), (1, .int (nI pn)), (2, .int (bI th))]) hx hb dMd_perform_393 hl (by decide) rfl (fun ls hl => ?_)
                generalize hU : zTold (zTrd (zRuns v ((qRuns v) + 1)) ((qTrd v) + 1)) (upd (upd (upd (upd (upd (upd (upd (upd (qTold v) (pn * 8) (100 + (qTr v))) (pn * 8 + 1) (qAcc v)) (pn * 8 + 2) (qSteps v)) (pn * 8 + 3) (qFin v)) (pn * 8 + 4) (qCat v)) (pn * 8 + 5) (qOrg v)) (pn * 8 + 6) (qNum v)) (pn * 8 + 7) 1) = g1 at hP
                have loop5 : ∀ (n j : Nat) (f : Nat → Int32) (H : Heap) (locs : List Loc) (ls : Array Slot), j + n = 8 → (∀ i, i < j → f (pn * 8 + i) = qCell g1 i) → (∀ q, (q < pn * 8 ∨ pn * 8 + 8 ≤ q) → f q = qCls g1 q) → va_P D vwCl (wM a cI cZ (zCls g1 f)) H → va_S (aM a) s.heap H locs → lv_has ls 6 [(0, .ref (a 0)), (1, .int (nI pn)), (3, .int (100 + (qTr v))), (4, .int (nI (pn * 8))), (5, .int (nI j))] → W p l e (headSpec (ce_ws yMd_perform cMd_perform 6 (some .int)) (ce_rm 4)).room s mi (([.ref (a 0), .int (nI pn), .int (bI th)] : List Value).toArray) below meth c H locs 0 0 (MQ below (va_Qi (fun r m2 => (r, m2) = mPerf th pn m) (fun m2 t => va_P D vwCl (wM a cI cZ m2) t.heap) (aM a)) (([.ref (a 0), .int (nI pn), .int (bI th)] : List Value).toArray) s 0 0 (aM a)) (F0 mi 395 ls []) := by
                  intro n
                  induction n with
                  | zero =>
                    intro j f H locs ls hj hf ho hP hS hl
                    refine lv_iload hx hb dMd_perform_395 (lv_at hl 4 rfl) ?_
                    refine lv_bipush (v := 8) hx hb dMd_perform_397 (by decide) ?_
                    refine lv_icmp_ge (tgt := 425) hx hb dMd_perform_399 (by decide) (fun c_83 => ?_) (fun c_83 => ?_)
                    · -- 399 taken
                      refine lv_aload_n hx hb dMd_perform_425 rfl (lv_at hl 0 rfl) ?_
                      refine cm_g hx hb hts hown hK hP 5 (by decide) rfl lMd_25 rfl dMd_perform_426 ?_
                      refine lv_iload_n hx hb dMd_perform_429 rfl (lv_at hl 1 rfl) ?_
                      refine lv_iconst (v := 1) hx hb dMd_perform_430 (by decide) ?_
                      refine cm_sRan (i := pn) (x := true) (by omega) hx hb hK hd hP hS dMd_perform_431 (fun H locs hP hS => ?_)
                      rw [qRan_zCls] at hP
                      refine lv_iload_n hx hb dMd_perform_432 rfl (lv_at hl 2 rfl) ?_
                      exact W.iret (v := 100 + (qTr v)) hx hb hr (fun t9 ht hW => ⟨⟨100 + (qTr v), zRan (zCls g1 f) (va_up (qRan g1) pn true), rfl, mTail_mk hU hv (mCnt_tn c_3 (bI0 c_1)) (if_neg c_3) (told8 (if_neg c_3) (if_neg c_3) (if_pos c_63) ((bI_one c_78).symm)) (blk8_of (fun i h => hf i (by omega)) ho), ce_hp ht hP⟩, hS.F ht⟩) hS.2.2 dMd_perform_433
                    · -- 399 not taken
                      exact absurd (nI_le (a := 8) (b := j) (by omega) (by omega)) c_83
                  | succ n ihn =>
                    intro j f H locs ls hj hf ho hP hS hl
                    refine lv_iload hx hb dMd_perform_395 (lv_at hl 4 rfl) ?_
                    refine lv_bipush (v := 8) hx hb dMd_perform_397 (by decide) ?_
                    refine lv_icmp_ge (tgt := 425) hx hb dMd_perform_399 (by decide) (fun c_84 => ?_) (fun c_84 => ?_)
                    · -- 399 taken
                      exact absurd c_84 (nI_ge (a := j) (b := 8) (by omega) (by omega))
                    · -- 399 not taken
                      refine lv_aload_n hx hb dMd_perform_402 rfl (lv_at hl 0 rfl) ?_
                      refine cm_g hx hb hts hown hK hP 4 (by decide) rfl lMd_22 rfl dMd_perform_403 ?_
                      refine lv_iload hx hb dMd_perform_406 (lv_at hl 3 rfl) ?_
                      refine lv_iload hx hb dMd_perform_408 (lv_at hl 4 rfl) ?_
                      refine lv_iadd hx hb dMd_perform_410 ?_
                      refine lv_topi (fun y_85 ey_85 => ?_)
                      obtain rfl : y_85 = nI (pn * 8 + j) := ey_85.trans (nI_add _ _)
                      refine lv_aload_n hx hb dMd_perform_411 rfl (lv_at hl 0 rfl) ?_
                      refine cm_g hx hb hts hown hK hP 14 (by decide) rfl lMd_38 rfl dMd_perform_412 ?_
                      refine lv_iload hx hb dMd_perform_415 (lv_at hl 4 rfl) ?_
                      refine cm_lCell (i := j) (by omega) hx hb hK hP dMd_perform_417 ?_
                      refine lv_topi (fun y_86 ey_86 => ?_)
                      obtain rfl : y_86 = qCell g1 j := ey_86.trans (by rw [qCell_zCls])
                      refine cm_sCls (i := (pn * 8 + j)) (x := qCell g1 j) (by omega) hx hb hK hd hP hS dMd_perform_418 (fun H locs hP hS => ?_)
                      rw [qCls_zCls] at hP
                      rw [zCls_zCls] at hP
                      refine lv_iinc (v := nI (j + 1)) (lv' := [(5, .int (nI (j + 1))), (0, .ref (a 0)), (1, .int (nI pn)), (3, .int (100 + (qTr v))), (4, .int (nI (pn * 8)))]) hx hb dMd_perform_419 hl (k := 4) rfl (nI_1 j) (by decide) rfl (fun ls hl => ?_)
                      refine lv_goto (tgt := 395) hx hb dMd_perform_422 (by decide) ?_
                      exact ihn (j + 1) (upd f (pn * 8 + j) (qCell g1 j)) _ _ _ (by omega) (b8_inC hf) (b8_out ho (by omega)) hP hS (lv_sub hl [1, 2, 3, 4, 0] rfl)
                exact loop5 8 0 (qCls g1) _ _ _ rfl (fun i h => absurd h (Nat.not_lt_zero i)) (fun _ _ => rfl) (by rw [zCls_self]; exact hP) hS (lv_sub hl [3, 4, 2, 1, 0] rfl)
    · -- 204 not taken
      refine lv_aload_n hx hb dMd_perform_207 rfl (lv_at hl 0 rfl) ?_
      refine lv_dup hx hb dMd_perform_208 rfl ?_
      refine cm_g hx hb hts hown hK hP 8 (by decide) rfl lMd_133 rfl dMd_perform_209 ?_
      refine lv_topi (fun y_87 ey_87 => ?_)
      obtain rfl : y_87 = qThr v := ey_87.trans (by rw [qThr_zRuns])
      refine lv_iconst (v := 1) hx hb dMd_perform_212 (by decide) ?_
      refine lv_iadd hx hb dMd_perform_213 ?_
      refine cm_pThr (x := (qThr v) + 1) hx hb hts hown hK hd hP hS lMd_133 dMd_perform_214 (fun H locs hP hS => ?_)
      refine lv_aload_n hx hb dMd_perform_217 rfl (lv_at hl 0 rfl) ?_
      refine cm_g hx hb hts hown hK hP 22 (by decide) rfl lMd_52 rfl dMd_perform_218 ?_
      refine lv_topi (fun y_88 ey_88 => ?_)
      obtain rfl : y_88 = qTr v := ey_88.trans (by rw [qTr_zThr, qTr_zRuns])
      refine lv_if_lt (tgt := 234) hx hb dMd_perform_221 (by decide) (fun c_89 => ?_) (fun c_89 => ?_)
      · -- 221 taken
        refine lv_aload_n hx hb dMd_perform_234 rfl (lv_at hl 0 rfl) ?_
        refine cm_g hx hb hts hown hK hP 22 (by decide) rfl lMd_52 rfl dMd_perform_235 ?_
        refine lv_topi (fun y_90 ey_90 => ?_)
        obtain rfl : y_90 = qTr v := ey_90.trans (by rw [qTr_zThr, qTr_zRuns])
        refine lv_if_lt (tgt := 251) hx hb dMd_perform_238 (by decide) (fun c_91 => ?_) (fun c_91 => ?_)
        · -- 238 taken
          refine lv_iconst (v := 0) hx hb dMd_perform_251 (by decide) ?_
          refine lv_istore_n (lv' := [(3, .int 0), (0, .ref (a 0)), (1, .int (nI pn)), (2, .int (bI th))]) hx hb dMd_perform_252 rfl hl (by decide) rfl (fun ls hl => ?_)
          refine lv_iload_n hx hb dMd_perform_253 rfl (lv_at hl 2 rfl) ?_
          refine lv_bipush (v := 8) hx hb dMd_perform_254 (by decide) ?_
          refine lv_imul hx hb dMd_perform_256 ?_
          refine lv_topi (fun y_92 ey_92 => ?_)
          obtain rfl : y_92 = nI (pn * 8) := ey_92.trans (pk_mul _ 8)
          refine lv_istore (lv' := [(4, .int (nI (pn * 8))), (3, .int 0), (0, .ref (a 0)), (1, .int (nI pn)), (2, .int (bI th))]) hx hb dMd_perform_257 hl (by decide) rfl (fun ls hl => ?_)
          refine lv_aload_n hx hb dMd_perform_259 rfl (lv_at hl 2 rfl) ?_
          refine cm_g hx hb hts hown hK hP 3 (by decide) rfl lMd_19 rfl dMd_perform_260 ?_
          refine lv_iload hx hb dMd_perform_263 (lv_at hl 0 rfl) ?_
          refine lv_iload_n hx hb dMd_perform_265 rfl (lv_at hl 1 rfl) ?_
          refine cm_sTold (i := (pn * 8)) (x := 0) (by omega) hx hb hK hd hP hS dMd_perform_266 (fun H locs hP hS => ?_)
          rw [qTold_zThr, qTold_zRuns] at hP
          refine lv_aload_n hx hb dMd_perform_267 rfl (lv_at hl 2 rfl) ?_
          refine cm_g hx hb hts hown hK hP 3 (by decide) rfl lMd_19 rfl dMd_perform_268 ?_
          refine lv_iload hx hb dMd_perform_271 (lv_at hl 0 rfl) ?_
          refine lv_iconst (v := 1) hx hb dMd_perform_273 (by decide) ?_
          refine lv_iadd hx hb dMd_perform_274 ?_
          refine lv_topi (fun y_93 ey_93 => ?_)
          obtain rfl : y_93 = nI (pn * 8 + 1) := ey_93.trans (nI_add _ 1)
          refine lv_aload_n hx hb dMd_perform_275 rfl (lv_at hl 2 rfl) ?_
          refine cm_g hx hb hts hown hK hP 18 (by decide) rfl lMd_78 rfl dMd_perform_276 ?_
          refine lv_topi (fun y_94 ey_94 => ?_)
          obtain rfl : y_94 = qAcc v := ey_94.trans (by rw [qAcc_zTold, qAcc_zThr, qAcc_zRuns])
          refine cm_sTold (i := (pn * 8 + 1)) (x := qAcc v) (by omega) hx hb hK hd hP hS dMd_perform_279 (fun H locs hP hS => ?_)
          rw [qTold_zTold] at hP
          rw [zTold_zTold] at hP
          refine lv_aload_n hx hb dMd_perform_280 rfl (lv_at hl 2 rfl) ?_
          refine cm_g hx hb hts hown hK hP 3 (by decide) rfl lMd_19 rfl dMd_perform_281 ?_
          refine lv_iload hx hb dMd_perform_284 (lv_at hl 0 rfl) ?_
          refine lv_iconst (v := 2) hx hb dMd_perform_286 (by decide) ?_
          refine lv_iadd hx hb dMd_perform_287 ?_
          refine lv_topi (fun y_95 ey_95 => ?_)
          obtain rfl : y_95 = nI (pn * 8 + 2) := ey_95.trans (nI_add _ 2)
          refine lv_aload_n hx hb dMd_perform_288 rfl (lv_at hl 2 rfl) ?_
          refine cm_g hx hb hts hown hK hP 19 (by decide) rfl lMd_112 rfl dMd_perform_289 ?_
          refine lv_topi (fun y_96 ey_96 => ?_)
          obtain rfl : y_96 = qSteps v := ey_96.trans (by rw [qSteps_zTold, qSteps_zThr, qSteps_zRuns])
          refine cm_sTold (i := (pn * 8 + 2)) (x := qSteps v) (by omega) hx hb hK hd hP hS dMd_perform_292 (fun H locs hP hS => ?_)
          rw [qTold_zTold] at hP
          rw [zTold_zTold] at hP
          refine lv_aload_n hx hb dMd_perform_293 rfl (lv_at hl 2 rfl) ?_
          refine cm_g hx hb hts hown hK hP 3 (by decide) rfl lMd_19 rfl dMd_perform_294 ?_
          refine lv_iload hx hb dMd_perform_297 (lv_at hl 0 rfl) ?_
          refine lv_iconst (v := 3) hx hb dMd_perform_299 (by decide) ?_
          refine lv_iadd hx hb dMd_perform_300 ?_
          refine lv_topi (fun y_97 ey_97 => ?_)
          obtain rfl : y_97 = nI (pn * 8 + 3) := ey_97.trans (nI_add _ 3)
          refine lv_aload_n hx hb dMd_perform_301 rfl (lv_at hl 2 rfl) ?_
          refine cm_g hx hb hts hown hK hP 20 (by decide) rfl lMd_75 rfl dMd_perform_302 ?_
          refine lv_topi (fun y_98 ey_98 => ?_)
          obtain rfl : y_98 = qFin v := ey_98.trans (by rw [qFin_zTold, qFin_zThr, qFin_zRuns])
          refine cm_sTold (i := (pn * 8 + 3)) (x := qFin v) (by omega) hx hb hK hd hP hS dMd_perform_305 (fun H locs hP hS => ?_)
          rw [qTold_zTold] at hP
          rw [zTold_zTold] at hP
          refine lv_aload_n hx hb dMd_perform_306 rfl (lv_at hl 2 rfl) ?_
          refine cm_g hx hb hts hown hK hP 3 (by decide) rfl lMd_19 rfl dMd_perform_307 ?_
          refine lv_iload hx hb dMd_perform_310 (lv_at hl 0 rfl) ?_
          refine lv_iconst (v := 4) hx hb dMd_perform_312 (by decide) ?_
          refine lv_iadd hx hb dMd_perform_313 ?_
          refine lv_topi (fun y_99 ey_99 => ?_)
          obtain rfl : y_99 = nI (pn * 8 + 4) := ey_99.trans (nI_add _ 4)
          refine lv_aload_n hx hb dMd_perform_314 rfl (lv_at hl 2 rfl) ?_
          refine cm_g hx hb hts hown hK hP 21 (by decide) rfl lMd_88 rfl dMd_perform_315 ?_
          refine lv_topi (fun y_100 ey_100 => ?_)
          obtain rfl : y_100 = qCat v := ey_100.trans (by rw [qCat_zTold, qCat_zThr, qCat_zRuns])
          refine cm_sTold (i := (pn * 8 + 4)) (x := qCat v) (by omega) hx hb hK hd hP hS dMd_perform_318 (fun H locs hP hS => ?_)
          rw [qTold_zTold] at hP
          rw [zTold_zTold] at hP
          refine lv_aload_n hx hb dMd_perform_319 rfl (lv_at hl 2 rfl) ?_
          refine cm_g hx hb hts hown hK hP 3 (by decide) rfl lMd_19 rfl dMd_perform_320 ?_
          refine lv_iload hx hb dMd_perform_323 (lv_at hl 0 rfl) ?_
          refine lv_iconst (v := 5) hx hb dMd_perform_325 (by decide) ?_
          refine lv_iadd hx hb dMd_perform_326 ?_
          refine lv_topi (fun y_101 ey_101 => ?_)
          obtain rfl : y_101 = nI (pn * 8 + 5) := ey_101.trans (nI_add _ 5)
          refine lv_aload_n hx hb dMd_perform_327 rfl (lv_at hl 2 rfl) ?_
          refine cm_g hx hb hts hown hK hP 22 (by decide) rfl lMd_52 rfl dMd_perform_328 ?_
          refine lv_topi (fun y_102 ey_102 => ?_)
          obtain rfl : y_102 = qTr v := ey_102.trans (by rw [qTr_zTold, qTr_zThr, qTr_zRuns])
          refine lv_if_lt (tgt := 341) hx hb dMd_perform_331 (by decide) (fun c_103 => ?_) (fun c_103 => ?_)
          · -- 331 taken
            refine lv_iconst (v := (-1)) hx hb dMd_perform_341 (by decide) ?_
            refine cm_sTold (i := (pn * 8 + 5)) (x := (-1)) (by omega) hx hb hK hd hP hS dMd_perform_342 (fun H locs hP hS => ?_)
            rw [qTold_zTold] at hP
            rw [zTold_zTold] at hP
            refine lv_aload_n hx hb dMd_perform_343 rfl (lv_at hl 2 rfl) ?_
            refine cm_g hx hb hts hown hK hP 3 (by decide) rfl lMd_19 rfl dMd_perform_344 ?_
            refine lv_iload hx hb dMd_perform_347 (lv_at hl 0 rfl) ?_
            refine lv_bipush (v := 6) hx hb dMd_perform_349 (by decide) ?_
            refine lv_iadd hx hb dMd_perform_351 ?_
            refine lv_topi (fun y_104 ey_104 => ?_)
            obtain rfl : y_104 = nI (pn * 8 + 6) := ey_104.trans (nI_add _ 6)
            refine lv_aload_n hx hb dMd_perform_352 rfl (lv_at hl 2 rfl) ?_
            refine cm_g hx hb hts hown hK hP 22 (by decide) rfl lMd_52 rfl dMd_perform_353 ?_
            refine lv_topi (fun y_105 ey_105 => ?_)
            obtain rfl : y_105 = qTr v := ey_105.trans (by rw [qTr_zTold, qTr_zThr, qTr_zRuns])
            refine lv_bipush (v := 10) hx hb dMd_perform_356 (by decide) ?_
            refine lv_icmp_ne (tgt := 368) hx hb dMd_perform_358 (by decide) (fun c_106 => ?_) (fun c_106 => ?_)
            · -- 358 taken
              refine lv_iconst (v := (-1)) hx hb dMd_perform_368 (by decide) ?_
              refine cm_sTold (i := (pn * 8 + 6)) (x := (-1)) (by omega) hx hb hK hd hP hS dMd_perform_369 (fun H locs hP hS => ?_)
              rw [qTold_zTold] at hP
              rw [zTold_zTold] at hP
              refine lv_aload_n hx hb dMd_perform_370 rfl (lv_at hl 2 rfl) ?_
              refine cm_g hx hb hts hown hK hP 3 (by decide) rfl lMd_19 rfl dMd_perform_371 ?_
              refine lv_iload hx hb dMd_perform_374 (lv_at hl 0 rfl) ?_
              refine lv_bipush (v := 7) hx hb dMd_perform_376 (by decide) ?_
              refine lv_iadd hx hb dMd_perform_378 ?_
              refine lv_topi (fun y_107 ey_107 => ?_)
              obtain rfl : y_107 = nI (pn * 8 + 7) := ey_107.trans (nI_add _ 7)
              refine lv_aload_n hx hb dMd_perform_379 rfl (lv_at hl 2 rfl) ?_
              refine cm_g hx hb hts hown hK hP 25 (by decide) rfl lMd_95 rfl dMd_perform_380 ?_
              refine lv_topi (fun y_108 ey_108 => ?_)
              obtain rfl : y_108 = bI (qMark v) := ey_108.trans (by rw [qMark_zTold, qMark_zThr, qMark_zRuns])
              refine lv_if_eq (tgt := 390) hx hb dMd_perform_383 (by decide) (fun c_109 => ?_) (fun c_109 => ?_)
              · -- 383 taken
                refine lv_iconst (v := 0) hx hb dMd_perform_390 (by decide) ?_
                refine cm_sTold (i := (pn * 8 + 7)) (x := 0) (by omega) hx hb hK hd hP hS dMd_perform_391 (fun H locs hP hS => ?_)
                rw [qTold_zTold] at hP
                rw [zTold_zTold] at hP
                refine lv_iconst (v := 0) hx hb dMd_perform_392 (by decide) ?_
                refine lv_istore (lv' := [(5, .int 0), (4, .int (nI (pn * 8))), (3, .int 0), (0, .ref (a 0)), (1, .int (nI pn)), (2, .int (bI th))]) hx hb dMd_perform_393 hl (by decide) rfl (fun ls hl => ?_)
                generalize hU : zTold (zThr (zRuns v ((qRuns v) + 1)) ((qThr v) + 1)) (upd (upd (upd (upd (upd (upd (upd (upd (qTold v) (pn * 8) 0) (pn * 8 + 1) (qAcc v)) (pn * 8 + 2) (qSteps v)) (pn * 8 + 3) (qFin v)) (pn * 8 + 4) (qCat v)) (pn * 8 + 5) (-1)) (pn * 8 + 6) (-1)) (pn * 8 + 7) 0) = g1 at hP
                have loop5 : ∀ (n j : Nat) (f : Nat → Int32) (H : Heap) (locs : List Loc) (ls : Array Slot), j + n = 8 → (∀ i, i < j → f (pn * 8 + i) = qCell g1 i) → (∀ q, (q < pn * 8 ∨ pn * 8 + 8 ≤ q) → f q = qCls g1 q) → va_P D vwCl (wM a cI cZ (zCls g1 f)) H → va_S (aM a) s.heap H locs → lv_has ls 6 [(0, .ref (a 0)), (1, .int (nI pn)), (3, .int 0), (4, .int (nI (pn * 8))), (5, .int (nI j))] → W p l e (headSpec (ce_ws yMd_perform cMd_perform 6 (some .int)) (ce_rm 4)).room s mi (([.ref (a 0), .int (nI pn), .int (bI th)] : List Value).toArray) below meth c H locs 0 0 (MQ below (va_Qi (fun r m2 => (r, m2) = mPerf th pn m) (fun m2 t => va_P D vwCl (wM a cI cZ m2) t.heap) (aM a)) (([.ref (a 0), .int (nI pn), .int (bI th)] : List Value).toArray) s 0 0 (aM a)) (F0 mi 395 ls []) := by
                  intro n
                  induction n with
                  | zero =>
                    intro j f H locs ls hj hf ho hP hS hl
                    refine lv_iload hx hb dMd_perform_395 (lv_at hl 4 rfl) ?_
                    refine lv_bipush (v := 8) hx hb dMd_perform_397 (by decide) ?_
                    refine lv_icmp_ge (tgt := 425) hx hb dMd_perform_399 (by decide) (fun c_110 => ?_) (fun c_110 => ?_)
                    · -- 399 taken
                      refine lv_aload_n hx hb dMd_perform_425 rfl (lv_at hl 0 rfl) ?_
                      refine cm_g hx hb hts hown hK hP 5 (by decide) rfl lMd_25 rfl dMd_perform_426 ?_
                      refine lv_iload_n hx hb dMd_perform_429 rfl (lv_at hl 1 rfl) ?_
                      refine lv_iconst (v := 1) hx hb dMd_perform_430 (by decide) ?_
                      refine cm_sRan (i := pn) (x := true) (by omega) hx hb hK hd hP hS dMd_perform_431 (fun H locs hP hS => ?_)
                      rw [qRan_zCls] at hP
                      refine lv_iload_n hx hb dMd_perform_432 rfl (lv_at hl 2 rfl) ?_
                      exact W.iret (v := 0) hx hb hr (fun t9 ht hW => ⟨⟨0, zRan (zCls g1 f) (va_up (qRan g1) pn true), rfl, mTail_mk hU hv (mCnt_nt c_89 (bI1 c_1)) (if_pos c_89) (told8 (if_pos c_89) (if_pos c_89) (if_neg c_106) (c_109)) (blk8_of (fun i h => hf i (by omega)) ho), ce_hp ht hP⟩, hS.F ht⟩) hS.2.2 dMd_perform_433
                    · -- 399 not taken
                      exact absurd (nI_le (a := 8) (b := j) (by omega) (by omega)) c_110
                  | succ n ihn =>
                    intro j f H locs ls hj hf ho hP hS hl
                    refine lv_iload hx hb dMd_perform_395 (lv_at hl 4 rfl) ?_
                    refine lv_bipush (v := 8) hx hb dMd_perform_397 (by decide) ?_
                    refine lv_icmp_ge (tgt := 425) hx hb dMd_perform_399 (by decide) (fun c_111 => ?_) (fun c_111 => ?_)
                    · -- 399 taken
                      exact absurd c_111 (nI_ge (a := j) (b := 8) (by omega) (by omega))
                    · -- 399 not taken
                      refine lv_aload_n hx hb dMd_perform_402 rfl (lv_at hl 0 rfl) ?_
                      refine cm_g hx hb hts hown hK hP 4 (by decide) rfl lMd_22 rfl dMd_perform_403 ?_
                      refine lv_iload hx hb dMd_perform_406 (lv_at hl 3 rfl) ?_
                      refine lv_iload hx hb dMd_perform_408 (lv_at hl 4 rfl) ?_
                      refine lv_iadd hx hb dMd_perform_410 ?_
                      refine lv_topi (fun y_112 ey_112 => ?_)
                      obtain rfl : y_112 = nI (pn * 8 + j) := ey_112.trans (nI_add _ _)
                      refine lv_aload_n hx hb dMd_perform_411 rfl (lv_at hl 0 rfl) ?_
                      refine cm_g hx hb hts hown hK hP 14 (by decide) rfl lMd_38 rfl dMd_perform_412 ?_
                      refine lv_iload hx hb dMd_perform_415 (lv_at hl 4 rfl) ?_
                      refine cm_lCell (i := j) (by omega) hx hb hK hP dMd_perform_417 ?_
                      refine lv_topi (fun y_113 ey_113 => ?_)
                      obtain rfl : y_113 = qCell g1 j := ey_113.trans (by rw [qCell_zCls])
                      refine cm_sCls (i := (pn * 8 + j)) (x := qCell g1 j) (by omega) hx hb hK hd hP hS dMd_perform_418 (fun H locs hP hS => ?_)
                      rw [qCls_zCls] at hP
                      rw [zCls_zCls] at hP
                      refine lv_iinc (v := nI (j + 1)) (lv' := [(5, .int (nI (j + 1))), (0, .ref (a 0)), (1, .int (nI pn)), (3, .int 0), (4, .int (nI (pn * 8)))]) hx hb dMd_perform_419 hl (k := 4) rfl (nI_1 j) (by decide) rfl (fun ls hl => ?_)
                      refine lv_goto (tgt := 395) hx hb dMd_perform_422 (by decide) ?_
                      exact ihn (j + 1) (upd f (pn * 8 + j) (qCell g1 j)) _ _ _ (by omega) (b8_inC hf) (b8_out ho (by omega)) hP hS (lv_sub hl [1, 2, 3, 4, 0] rfl)
                exact loop5 8 0 (qCls g1) _ _ _ rfl (fun i h => absurd h (Nat.not_lt_zero i)) (fun _ _ => rfl) (by rw [zCls_self]; exact hP) hS (lv_sub hl [3, 4, 2, 1, 0] rfl)
              · -- 383 not taken
                refine lv_iconst (v := 1) hx hb dMd_perform_386 (by decide) ?_
                refine lv_goto (tgt := 391) hx hb dMd_perform_387 (by decide) ?_
                refine cm_sTold (i := (pn * 8 + 7)) (x := 1) (by omega) hx hb hK hd hP hS dMd_perform_391 (fun H locs hP hS => ?_)
                rw [qTold_zTold] at hP
                rw [zTold_zTold] at hP
                refine lv_iconst (v := 0) hx hb dMd_perform_392 (by decide) ?_
                refine lv_istore (lv' := [(5, .int 0), (4, .int (nI (pn * 8))), (3, .int 0), (0, .ref (a 0)), (1, .int (nI pn)), (2, .int (bI th))]) hx hb dMd_perform_393 hl (by decide) rfl (fun ls hl => ?_)
                generalize hU : zTold (zThr (zRuns v ((qRuns v) + 1)) ((qThr v) + 1)) (upd (upd (upd (upd (upd (upd (upd (upd (qTold v) (pn * 8) 0) (pn * 8 + 1) (qAcc v)) (pn * 8 + 2) (qSteps v)) (pn * 8 + 3) (qFin v)) (pn * 8 + 4) (qCat v)) (pn * 8 + 5) (-1)) (pn * 8 + 6) (-1)) (pn * 8 + 7) 1) = g1 at hP
                have loop5 : ∀ (n j : Nat) (f : Nat → Int32) (H : Heap) (locs : List Loc) (ls : Array Slot), j + n = 8 → (∀ i, i < j → f (pn * 8 + i) = qCell g1 i) → (∀ q, (q < pn * 8 ∨ pn * 8 + 8 ≤ q) → f q = qCls g1 q) → va_P D vwCl (wM a cI cZ (zCls g1 f)) H → va_S (aM a) s.heap H locs → lv_has ls 6 [(0, .ref (a 0)), (1, .int (nI pn)), (3, .int 0), (4, .int (nI (pn * 8))), (5, .int (nI j))] → W p l e (headSpec (ce_ws yMd_perform cMd_perform 6 (some .int)) (ce_rm 4)).room s mi (([.ref (a 0), .int (nI pn), .int (bI th)] : List Value).toArray) below meth c H locs 0 0 (MQ below (va_Qi (fun r m2 => (r, m2) = mPerf th pn m) (fun m2 t => va_P D vwCl (wM a cI cZ m2) t.heap) (aM a)) (([.ref (a 0), .int (nI pn), .int (bI th)] : List Value).toArray) s 0 0 (aM a)) (F0 mi 395 ls []) := by
                  intro n
                  induction n with
                  | zero =>
                    intro j f H locs ls hj hf ho hP hS hl
                    refine lv_iload hx hb dMd_perform_395 (lv_at hl 4 rfl) ?_
                    refine lv_bipush (v := 8) hx hb dMd_perform_397 (by decide) ?_
                    refine lv_icmp_ge (tgt := 425) hx hb dMd_perform_399 (by decide) (fun c_114 => ?_) (fun c_114 => ?_)
                    · -- 399 taken
                      refine lv_aload_n hx hb dMd_perform_425 rfl (lv_at hl 0 rfl) ?_
                      refine cm_g hx hb hts hown hK hP 5 (by decide) rfl lMd_25 rfl dMd_perform_426 ?_
                      refine lv_iload_n hx hb dMd_perform_429 rfl (lv_at hl 1 rfl) ?_
                      refine lv_iconst (v := 1) hx hb dMd_perform_430 (by decide) ?_
                      refine cm_sRan (i := pn) (x := true) (by omega) hx hb hK hd hP hS dMd_perform_431 (fun H locs hP hS => ?_)
                      rw [qRan_zCls] at hP
                      refine lv_iload_n hx hb dMd_perform_432 rfl (lv_at hl 2 rfl) ?_
                      exact W.iret (v := 0) hx hb hr (fun t9 ht hW => ⟨⟨0, zRan (zCls g1 f) (va_up (qRan g1) pn true), rfl, mTail_mk hU hv (mCnt_nt c_89 (bI1 c_1)) (if_pos c_89) (told8 (if_pos c_89) (if_pos c_89) (if_neg c_106) ((bI_one c_109).symm)) (blk8_of (fun i h => hf i (by omega)) ho), ce_hp ht hP⟩, hS.F ht⟩) hS.2.2 dMd_perform_433
                    · -- 399 not taken
                      exact absurd (nI_le (a := 8) (b := j) (by omega) (by omega)) c_114
                  | succ n ihn =>
                    intro j f H locs ls hj hf ho hP hS hl
                    refine lv_iload hx hb dMd_perform_395 (lv_at hl 4 rfl) ?_
                    refine lv_bipush (v := 8) hx hb dMd_perform_397 (by decide) ?_
                    refine lv_icmp_ge (tgt := 425) hx hb dMd_perform_399 (by decide) (fun c_115 => ?_) (fun c_115 => ?_)
                    · -- 399 taken
                      exact absurd c_115 (nI_ge (a := j) (b := 8) (by omega) (by omega))
                    · -- 399 not taken
                      refine lv_aload_n hx hb dMd_perform_402 rfl (lv_at hl 0 rfl) ?_
                      refine cm_g hx hb hts hown hK hP 4 (by decide) rfl lMd_22 rfl dMd_perform_403 ?_
                      refine lv_iload hx hb dMd_perform_406 (lv_at hl 3 rfl) ?_
                      refine lv_iload hx hb dMd_perform_408 (lv_at hl 4 rfl) ?_
                      refine lv_iadd hx hb dMd_perform_410 ?_
                      refine lv_topi (fun y_116 ey_116 => ?_)
                      obtain rfl : y_116 = nI (pn * 8 + j) := ey_116.trans (nI_add _ _)
                      refine lv_aload_n hx hb dMd_perform_411 rfl (lv_at hl 0 rfl) ?_
                      refine cm_g hx hb hts hown hK hP 14 (by decide) rfl lMd_38 rfl dMd_perform_412 ?_
                      refine lv_iload hx hb dMd_perform_415 (lv_at hl 4 rfl) ?_
                      refine cm_lCell (i := j) (by omega) hx hb hK hP dMd_perform_417 ?_
                      refine lv_topi (fun y_117 ey_117 => ?_)
                      obtain rfl : y_117 = qCell g1 j := ey_117.trans (by rw [qCell_zCls])
                      refine cm_sCls (i := (pn * 8 + j)) (x := qCell g1 j) (by omega) hx hb hK hd hP hS dMd_perform_418 (fun H locs hP hS => ?_)
                      rw [qCls_zCls] at hP
                      rw [zCls_zCls] at hP
                      refine lv_iinc (v := nI (j + 1)) (lv' := [(5, .int (nI (j + 1))), (0, .ref (a 0)), (1, .int (nI pn)), (3, .int 0), (4, .int (nI (pn * 8)))]) hx hb dMd_perform_419 hl (k := 4) rfl (nI_1 j) (by decide) rfl (fun ls hl => ?_)
                      refine lv_goto (tgt := 395) hx hb dMd_perform_422 (by decide) ?_
                      exact ihn (j + 1) (upd f (pn * 8 + j) (qCell g1 j)) _ _ _ (by omega) (b8_inC hf) (b8_out ho (by omega)) hP hS (lv_sub hl [1, 2, 3, 4, 0] rfl)
                exact loop5 8 0 (qCls g1) _ _ _ rfl (fun i h => absurd h (Nat.not_lt_zero i)) (fun _ _ => rfl) (by rw [zCls_self]; exact hP) hS (lv_sub hl [3, 4, 2, 1, 0] rfl)
            · -- 358 not taken
              refine lv_aload_n hx hb dMd_perform_361 rfl (lv_at hl 2 rfl) ?_
              refine cm_g hx hb hts hown hK hP 23 (by decide) rfl lMd_56 rfl dMd_perform_362 ?_
              refine lv_topi (fun y_118 ey_118 => ?_)
              obtain rfl : y_118 = qNum v := ey_118.trans (by rw [qNum_zTold, qNum_zThr, qNum_zRuns])
              refine lv_goto (tgt := 369) hx hb dMd_perform_365 (by decide) ?_
              refine cm_sTold (i := (pn * 8 + 6)) (x := qNum v) (by omega) hx hb hK hd hP hS dMd_perform_369 (fun H locs hP hS => ?_)
              rw [qTold_zTold] at hP
              rw [zTold_zTold] at hP
              refine lv_aload_n hx hb dMd_perform_370 rfl (lv_at hl 2 rfl) ?_
              refine cm_g hx hb hts hown hK hP 3 (by decide) rfl lMd_19 rfl dMd_perform_371 ?_
              refine lv_iload hx hb dMd_perform_374 (lv_at hl 0 rfl) ?_
              refine lv_bipush (v := 7) hx hb dMd_perform_376 (by decide) ?_
              refine lv_iadd hx hb dMd_perform_378 ?_
              refine lv_topi (fun y_119 ey_119 => ?_)
              obtain rfl : y_119 = nI (pn * 8 + 7) := ey_119.trans (nI_add _ 7)
              refine lv_aload_n hx hb dMd_perform_379 rfl (lv_at hl 2 rfl) ?_
              refine cm_g hx hb hts hown hK hP 25 (by decide) rfl lMd_95 rfl dMd_perform_380 ?_
              refine lv_topi (fun y_120 ey_120 => ?_)
              obtain rfl : y_120 = bI (qMark v) := ey_120.trans (by rw [qMark_zTold, qMark_zThr, qMark_zRuns])
              refine lv_if_eq (tgt := 390) hx hb dMd_perform_383 (by decide) (fun c_121 => ?_) (fun c_121 => ?_)
              · -- 383 taken
                refine lv_iconst (v := 0) hx hb dMd_perform_390 (by decide) ?_
                refine cm_sTold (i := (pn * 8 + 7)) (x := 0) (by omega) hx hb hK hd hP hS dMd_perform_391 (fun H locs hP hS => ?_)
                rw [qTold_zTold] at hP
                rw [zTold_zTold] at hP
                refine lv_iconst (v := 0) hx hb dMd_perform_392 (by decide) ?_
                refine lv_istore (lv' := [(5, .int 0), (4, .int (nI (pn * 8))), (3, .int 0), (0, .ref (a 0)), (1, .int (nI pn)), (2, .int (bI th))]) hx hb dMd_perform_393 hl (by decide) rfl (fun ls hl => ?_)
                generalize hU : zTold (zThr (zRuns v ((qRuns v) + 1)) ((qThr v) + 1)) (upd (upd (upd (upd (upd (upd (upd (upd (qTold v) (pn * 8) 0) (pn * 8 + 1) (qAcc v)) (pn * 8 + 2) (qSteps v)) (pn * 8 + 3) (qFin v)) (pn * 8 + 4) (qCat v)) (pn * 8 + 5) (-1)) (pn * 8 + 6) (qNum v)) (pn * 8 + 7) 0) = g1 at hP
                have loop5 : ∀ (n j : Nat) (f : Nat → Int32) (H : Heap) (locs : List Loc) (ls : Array Slot), j + n = 8 → (∀ i, i < j → f (pn * 8 + i) = qCell g1 i) → (∀ q, (q < pn * 8 ∨ pn * 8 + 8 ≤ q) → f q = qCls g1 q) → va_P D vwCl (wM a cI cZ (zCls g1 f)) H → va_S (aM a) s.heap H locs → lv_has ls 6 [(0, .ref (a 0)), (1, .int (nI pn)), (3, .int 0), (4, .int (nI (pn * 8))), (5, .int (nI j))] → W p l e (headSpec (ce_ws yMd_perform cMd_perform 6 (some .int)) (ce_rm 4)).room s mi (([.ref (a 0), .int (nI pn), .int (bI th)] : List Value).toArray) below meth c H locs 0 0 (MQ below (va_Qi (fun r m2 => (r, m2) = mPerf th pn m) (fun m2 t => va_P D vwCl (wM a cI cZ m2) t.heap) (aM a)) (([.ref (a 0), .int (nI pn), .int (bI th)] : List Value).toArray) s 0 0 (aM a)) (F0 mi 395 ls []) := by
                  intro n
                  induction n with
                  | zero =>
                    intro j f H locs ls hj hf ho hP hS hl
                    refine lv_iload hx hb dMd_perform_395 (lv_at hl 4 rfl) ?_
                    refine lv_bipush (v := 8) hx hb dMd_perform_397 (by decide) ?_
                    refine lv_icmp_ge (tgt := 425) hx hb dMd_perform_399 (by decide) (fun c_122 => ?_) (fun c_122 => ?_)
                    · -- 399 taken
                      refine lv_aload_n hx hb dMd_perform_425 rfl (lv_at hl 0 rfl) ?_
                      refine cm_g hx hb hts hown hK hP 5 (by decide) rfl lMd_25 rfl dMd_perform_426 ?_
                      refine lv_iload_n hx hb dMd_perform_429 rfl (lv_at hl 1 rfl) ?_
                      refine lv_iconst (v := 1) hx hb dMd_perform_430 (by decide) ?_
                      refine cm_sRan (i := pn) (x := true) (by omega) hx hb hK hd hP hS dMd_perform_431 (fun H locs hP hS => ?_)
                      rw [qRan_zCls] at hP
                      refine lv_iload_n hx hb dMd_perform_432 rfl (lv_at hl 2 rfl) ?_
                      exact W.iret (v := 0) hx hb hr (fun t9 ht hW => ⟨⟨0, zRan (zCls g1 f) (va_up (qRan g1) pn true), rfl, mTail_mk hU hv (mCnt_nt c_89 (bI1 c_1)) (if_pos c_89) (told8 (if_pos c_89) (if_pos c_89) (if_pos c_106) (c_121)) (blk8_of (fun i h => hf i (by omega)) ho), ce_hp ht hP⟩, hS.F ht⟩) hS.2.2 dMd_perform_433
                    · -- 399 not taken
                      exact absurd (nI_le (a := 8) (b := j) (by omega) (by omega)) c_122
                  | succ n ihn =>
                    intro j f H locs ls hj hf ho hP hS hl
                    refine lv_iload hx hb dMd_perform_395 (lv_at hl 4 rfl) ?_
                    refine lv_bipush (v := 8) hx hb dMd_perform_397 (by decide) ?_
                    refine lv_icmp_ge (tgt := 425) hx hb dMd_perform_399 (by decide) (fun c_123 => ?_) (fun c_123 => ?_)
                    · -- 399 taken
                      exact absurd c_123 (nI_ge (a := j) (b := 8) (by omega) (by omega))
                    · -- 399 not taken
                      refine lv_aload_n hx hb dMd_perform_402 rfl (lv_at hl 0 rfl) ?_
                      refine cm_g hx hb hts hown hK hP 4 (by decide) rfl lMd_22 rfl dMd_perform_403 ?_
                      refine lv_iload hx hb dMd_perform_406 (lv_at hl 3 rfl) ?_
                      refine lv_iload hx hb dMd_perform_408 (lv_at hl 4 rfl) ?_
                      refine lv_iadd hx hb dMd_perform_410 ?_
                      refine lv_topi (fun y_124 ey_124 => ?_)
                      obtain rfl : y_124 = nI (pn * 8 + j) := ey_124.trans (nI_add _ _)
                      refine lv_aload_n hx hb dMd_perform_411 rfl (lv_at hl 0 rfl) ?_
                      refine cm_g hx hb hts hown hK hP 14 (by decide) rfl lMd_38 rfl dMd_perform_412 ?_
                      refine lv_iload hx hb dMd_perform_415 (lv_at hl 4 rfl) ?_
                      refine cm_lCell (i := j) (by omega) hx hb hK hP dMd_perform_417 ?_
                      refine lv_topi (fun y_125 ey_125 => ?_)
                      obtain rfl : y_125 = qCell g1 j := ey_125.trans (by rw [qCell_zCls])
                      refine cm_sCls (i := (pn * 8 + j)) (x := qCell g1 j) (by omega) hx hb hK hd hP hS dMd_perform_418 (fun H locs hP hS => ?_)
                      rw [qCls_zCls] at hP
                      rw [zCls_zCls] at hP
                      refine lv_iinc (v := nI (j + 1)) (lv' := [(5, .int (nI (j + 1))), (0, .ref (a 0)), (1, .int (nI pn)), (3, .int 0), (4, .int (nI (pn * 8)))]) hx hb dMd_perform_419 hl (k := 4) rfl (nI_1 j) (by decide) rfl (fun ls hl => ?_)
                      refine lv_goto (tgt := 395) hx hb dMd_perform_422 (by decide) ?_
                      exact ihn (j + 1) (upd f (pn * 8 + j) (qCell g1 j)) _ _ _ (by omega) (b8_inC hf) (b8_out ho (by omega)) hP hS (lv_sub hl [1, 2, 3, 4, 0] rfl)
                exact loop5 8 0 (qCls g1) _ _ _ rfl (fun i h => absurd h (Nat.not_lt_zero i)) (fun _ _ => rfl) (by rw [zCls_self]; exact hP) hS (lv_sub hl [3, 4, 2, 1, 0] rfl)
              · -- 383 not taken
                refine lv_iconst (v := 1) hx hb dMd_perform_386 (by decide) ?_
                refine lv_goto (tgt := 391) hx hb dMd_perform_387 (by decide) ?_
                refine cm_sTold (i := (pn * 8 + 7)) (x := 1) (by omega) hx hb hK hd hP hS dMd_perform_391 (fun H locs hP hS => ?_)
                rw [qTold_zTold] at hP
                rw [zTold_zTold] at hP
                refine lv_iconst (v := 0) hx hb dMd_perform_392 (by decide) ?_
                refine lv_istore (lv' := [(5, .int 0), (4, .int (nI (pn * 8))), (3, .int 0), (0, .ref (a 0)), (1, .int (nI pn)), (2, .int (bI th))]) hx hb dMd_perform_393 hl (by decide) rfl (fun ls hl => ?_)
                generalize hU : zTold (zThr (zRuns v ((qRuns v) + 1)) ((qThr v) + 1)) (upd (upd (upd (upd (upd (upd (upd (upd (qTold v) (pn * 8) 0) (pn * 8 + 1) (qAcc v)) (pn * 8 + 2) (qSteps v)) (pn * 8 + 3) (qFin v)) (pn * 8 + 4) (qCat v)) (pn * 8 + 5) (-1)) (pn * 8 + 6) (qNum v)) (pn * 8 + 7) 1) = g1 at hP
                have loop5 : ∀ (n j : Nat) (f : Nat → Int32) (H : Heap) (locs : List Loc) (ls : Array Slot), j + n = 8 → (∀ i, i < j → f (pn * 8 + i) = qCell g1 i) → (∀ q, (q < pn * 8 ∨ pn * 8 + 8 ≤ q) → f q = qCls g1 q) → va_P D vwCl (wM a cI cZ (zCls g1 f)) H → va_S (aM a) s.heap H locs → lv_has ls 6 [(0, .ref (a 0)), (1, .int (nI pn)), (3, .int 0), (4, .int (nI (pn * 8))), (5, .int (nI j))] → W p l e (headSpec (ce_ws yMd_perform cMd_perform 6 (some .int)) (ce_rm 4)).room s mi (([.ref (a 0), .int (nI pn), .int (bI th)] : List Value).toArray) below meth c H locs 0 0 (MQ below (va_Qi (fun r m2 => (r, m2) = mPerf th pn m) (fun m2 t => va_P D vwCl (wM a cI cZ m2) t.heap) (aM a)) (([.ref (a 0), .int (nI pn), .int (bI th)] : List Value).toArray) s 0 0 (aM a)) (F0 mi 395 ls []) := by
                  intro n
                  induction n with
                  | zero =>
                    intro j f H locs ls hj hf ho hP hS hl
                    refine lv_iload hx hb dMd_perform_395 (lv_at hl 4 rfl) ?_
                    refine lv_bipush (v := 8) hx hb dMd_perform_397 (by decide) ?_
                    refine lv_icmp_ge (tgt := 425) hx hb dMd_perform_399 (by decide) (fun c_126 => ?_) (fun c_126 => ?_)
                    · -- 399 taken
                      refine lv_aload_n hx hb dMd_perform_425 rfl (lv_at hl 0 rfl) ?_
                      refine cm_g hx hb hts hown hK hP 5 (by decide) rfl lMd_25 rfl dMd_perform_426 ?_
                      refine lv_iload_n hx hb dMd_perform_429 rfl (lv_at hl 1 rfl) ?_
                      refine lv_iconst (v := 1) hx hb dMd_perform_430 (by decide) ?_
                      refine cm_sRan (i := pn) (x := true) (by omega) hx hb hK hd hP hS dMd_perform_431 (fun H locs hP hS => ?_)
                      rw [qRan_zCls] at hP
                      refine lv_iload_n hx hb dMd_perform_432 rfl (lv_at hl 2 rfl) ?_
                      exact W.iret (v := 0) hx hb hr (fun t9 ht hW => ⟨⟨0, zRan (zCls g1 f) (va_up (qRan g1) pn true), rfl, mTail_mk hU hv (mCnt_nt c_89 (bI1 c_1)) (if_pos c_89) (told8 (if_pos c_89) (if_pos c_89) (if_pos c_106) ((bI_one c_121).symm)) (blk8_of (fun i h => hf i (by omega)) ho), ce_hp ht hP⟩, hS.F ht⟩) hS.2.2 dMd_perform_433
                    · -- 399 not taken
                      exact absurd (nI_le (a := 8) (b := j) (by omega) (by omega)) c_126
                  | succ n ihn =>
                    intro j f H locs ls hj hf ho hP hS hl
                    refine lv_iload hx hb dMd_perform_395 (lv_at hl 4 rfl) ?_
                    refine lv_bipush (v := 8) hx hb dMd_perform_397 (by decide) ?_
                    refine lv_icmp_ge (tgt := 425) hx hb dMd_perform_399 (by decide) (fun c_127 => ?_) (fun c_127 => ?_)
                    · -- 399 taken
                      exact absurd c_127 (nI_ge (a := j) (b := 8) (by omega) (by omega))
                    · -- 399 not taken
                      refine lv_aload_n hx hb dMd_perform_402 rfl (lv_at hl 0 rfl) ?_
                      refine cm_g hx hb hts hown hK hP 4 (by decide) rfl lMd_22 rfl dMd_perform_403 ?_
                      refine lv_iload hx hb dMd_perform_406 (lv_at hl 3 rfl) ?_
                      refine lv_iload hx hb dMd_perform_408 (lv_at hl 4 rfl) ?_
                      refine lv_iadd hx hb dMd_perform_410 ?_
                      refine lv_topi (fun y_128 ey_128 => ?_)
                      obtain rfl : y_128 = nI (pn * 8 + j) := ey_128.trans (nI_add _ _)
                      refine lv_aload_n hx hb dMd_perform_411 rfl (lv_at hl 0 rfl) ?_
                      refine cm_g hx hb hts hown hK hP 14 (by decide) rfl lMd_38 rfl dMd_perform_412 ?_
                      refine lv_iload hx hb dMd_perform_415 (lv_at hl 4 rfl) ?_
                      refine cm_lCell (i := j) (by omega) hx hb hK hP dMd_perform_417 ?_
                      refine lv_topi (fun y_129 ey_129 => ?_)
                      obtain rfl : y_129 = qCell g1 j := ey_129.trans (by rw [qCell_zCls])
                      refine cm_sCls (i := (pn * 8 + j)) (x := qCell g1 j) (by omega) hx hb hK hd hP hS dMd_perform_418 (fun H locs hP hS => ?_)
                      rw [qCls_zCls] at hP
                      rw [zCls_zCls] at hP
                      refine lv_iinc (v := nI (j + 1)) (lv' := [(5, .int (nI (j + 1))), (0, .ref (a 0)), (1, .int (nI pn)), (3, .int 0), (4, .int (nI (pn * 8)))]) hx hb dMd_perform_419 hl (k := 4) rfl (nI_1 j) (by decide) rfl (fun ls hl => ?_)
                      refine lv_goto (tgt := 395) hx hb dMd_perform_422 (by decide) ?_
                      exact ihn (j + 1) (upd f (pn * 8 + j) (qCell g1 j)) _ _ _ (by omega) (b8_inC hf) (b8_out ho (by omega)) hP hS (lv_sub hl [1, 2, 3, 4, 0] rfl)
                exact loop5 8 0 (qCls g1) _ _ _ rfl (fun i h => absurd h (Nat.not_lt_zero i)) (fun _ _ => rfl) (by rw [zCls_self]; exact hP) hS (lv_sub hl [3, 4, 2, 1, 0] rfl)
          · -- 331 not taken
            exact absurd c_89 c_103
        · -- 238 not taken
          exact absurd c_89 c_91
      · -- 221 not taken
        refine lv_aload_n hx hb dMd_perform_224 rfl (lv_at hl 0 rfl) ?_
        refine lv_dup hx hb dMd_perform_225 rfl ?_
        refine cm_g hx hb hts hown hK hP 9 (by decide) rfl lMd_136 rfl dMd_perform_226 ?_
        refine lv_topi (fun y_130 ey_130 => ?_)
        obtain rfl : y_130 = qTrd v := ey_130.trans (by rw [qTrd_zThr, qTrd_zRuns])
        refine lv_iconst (v := 1) hx hb dMd_perform_229 (by decide) ?_
        refine lv_iadd hx hb dMd_perform_230 ?_
        refine cm_pTrd (x := (qTrd v) + 1) hx hb hts hown hK hd hP hS lMd_136 dMd_perform_231 (fun H locs hP hS => ?_)
        refine lv_aload_n hx hb dMd_perform_234 rfl (lv_at hl 0 rfl) ?_
        refine cm_g hx hb hts hown hK hP 22 (by decide) rfl lMd_52 rfl dMd_perform_235 ?_
        refine lv_topi (fun y_131 ey_131 => ?_)
        obtain rfl : y_131 = qTr v := ey_131.trans (by rw [qTr_zTrd, qTr_zThr, qTr_zRuns])
        refine lv_if_lt (tgt := 251) hx hb dMd_perform_238 (by decide) (fun c_132 => ?_) (fun c_132 => ?_)
        · -- 238 taken
          exact absurd c_132 c_89
        · -- 238 not taken
          refine lv_bipush (v := 100) hx hb dMd_perform_241 (by decide) ?_
          refine lv_aload_n hx hb dMd_perform_243 rfl (lv_at hl 0 rfl) ?_
          refine cm_g hx hb hts hown hK hP 22 (by decide) rfl lMd_52 rfl dMd_perform_244 ?_
          refine lv_topi (fun y_133 ey_133 => ?_)
          obtain rfl : y_133 = qTr v := ey_133.trans (by rw [qTr_zTrd, qTr_zThr, qTr_zRuns])
          refine lv_iadd hx hb dMd_perform_247 ?_
          refine lv_goto (tgt := 252) hx hb dMd_perform_248 (by decide) ?_
          refine lv_istore_n (lv' := [(3, .int (100 + (qTr v))), (0, .ref (a 0)), (1, .int (nI pn)), (2, .int (bI th))]) hx hb dMd_perform_252 rfl hl (by decide) rfl (fun ls hl => ?_)
          refine lv_iload_n hx hb dMd_perform_253 rfl (lv_at hl 2 rfl) ?_
          refine lv_bipush (v := 8) hx hb dMd_perform_254 (by decide) ?_
          refine lv_imul hx hb dMd_perform_256 ?_
          refine lv_topi (fun y_134 ey_134 => ?_)
          obtain rfl : y_134 = nI (pn * 8) := ey_134.trans (pk_mul _ 8)
          refine lv_istore (lv' := [(4, .int (nI (pn * 8))), (3, .int (100 + (qTr v))), (0, .ref (a 0)), (1, .int (nI pn)), (2, .int (bI th))]) hx hb dMd_perform_257 hl (by decide) rfl (fun ls hl => ?_)
          refine lv_aload_n hx hb dMd_perform_259 rfl (lv_at hl 2 rfl) ?_
          refine cm_g hx hb hts hown hK hP 3 (by decide) rfl lMd_19 rfl dMd_perform_260 ?_
          refine lv_iload hx hb dMd_perform_263 (lv_at hl 0 rfl) ?_
          refine lv_iload_n hx hb dMd_perform_265 rfl (lv_at hl 1 rfl) ?_
          refine cm_sTold (i := (pn * 8)) (x := 100 + (qTr v)) (by omega) hx hb hK hd hP hS dMd_perform_266 (fun H locs hP hS => ?_)
          rw [qTold_zTrd, qTold_zThr, qTold_zRuns] at hP
          refine lv_aload_n hx hb dMd_perform_267 rfl (lv_at hl 2 rfl) ?_
          refine cm_g hx hb hts hown hK hP 3 (by decide) rfl lMd_19 rfl dMd_perform_268 ?_
          refine lv_iload hx hb dMd_perform_271 (lv_at hl 0 rfl) ?_
          refine lv_iconst (v := 1) hx hb dMd_perform_273 (by decide) ?_
          refine lv_iadd hx hb dMd_perform_274 ?_
          refine lv_topi (fun y_135 ey_135 => ?_)
          obtain rfl : y_135 = nI (pn * 8 + 1) := ey_135.trans (nI_add _ 1)
          refine lv_aload_n hx hb dMd_perform_275 rfl (lv_at hl 2 rfl) ?_
          refine cm_g hx hb hts hown hK hP 18 (by decide) rfl lMd_78 rfl dMd_perform_276 ?_
          refine lv_topi (fun y_136 ey_136 => ?_)
          obtain rfl : y_136 = qAcc v := ey_136.trans (by rw [qAcc_zTold, qAcc_zTrd, qAcc_zThr, qAcc_zRuns])
          refine cm_sTold (i := (pn * 8 + 1)) (x := qAcc v) (by omega) hx hb hK hd hP hS dMd_perform_279 (fun H locs hP hS => ?_)
          rw [qTold_zTold] at hP
          rw [zTold_zTold] at hP
          refine lv_aload_n hx hb dMd_perform_280 rfl (lv_at hl 2 rfl) ?_
          refine cm_g hx hb hts hown hK hP 3 (by decide) rfl lMd_19 rfl dMd_perform_281 ?_
          refine lv_iload hx hb dMd_perform_284 (lv_at hl 0 rfl) ?_
          refine lv_iconst (v := 2) hx hb dMd_perform_286 (by decide) ?_
          refine lv_iadd hx hb dMd_perform_287 ?_
          refine lv_topi (fun y_137 ey_137 => ?_)
          obtain rfl : y_137 = nI (pn * 8 + 2) := ey_137.trans (nI_add _ 2)
          refine lv_aload_n hx hb dMd_perform_288 rfl (lv_at hl 2 rfl) ?_
          refine cm_g hx hb hts hown hK hP 19 (by decide) rfl lMd_112 rfl dMd_perform_289 ?_
          refine lv_topi (fun y_138 ey_138 => ?_)
          obtain rfl : y_138 = qSteps v := ey_138.trans (by rw [qSteps_zTold, qSteps_zTrd, qSteps_zThr, qSteps_zRuns])
          refine cm_sTold (i := (pn * 8 + 2)) (x := qSteps v) (by omega) hx hb hK hd hP hS dMd_perform_292 (fun H locs hP hS => ?_)
          rw [qTold_zTold] at hP
          rw [zTold_zTold] at hP
          refine lv_aload_n hx hb dMd_perform_293 rfl (lv_at hl 2 rfl) ?_
          refine cm_g hx hb hts hown hK hP 3 (by decide) rfl lMd_19 rfl dMd_perform_294 ?_
          refine lv_iload hx hb dMd_perform_297 (lv_at hl 0 rfl) ?_
          refine lv_iconst (v := 3) hx hb dMd_perform_299 (by decide) ?_
          refine lv_iadd hx hb dMd_perform_300 ?_
          refine lv_topi (fun y_139 ey_139 => ?_)
          obtain rfl : y_139 = nI (pn * 8 + 3) := ey_139.trans (nI_add _ 3)
          refine lv_aload_n hx hb dMd_perform_301 rfl (lv_at hl 2 rfl) ?_
          refine cm_g hx hb hts hown hK hP 20 (by decide) rfl lMd_75 rfl dMd_perform_302 ?_
          refine lv_topi (fun y_140 ey_140 => ?_)
          obtain rfl : y_140 = qFin v := ey_140.trans (by rw [qFin_zTold, qFin_zTrd, qFin_zThr, qFin_zRuns])
          refine cm_sTold (i := (pn * 8 + 3)) (x := qFin v) (by omega) hx hb hK hd hP hS dMd_perform_305 (fun H locs hP hS => ?_)
          rw [qTold_zTold] at hP
          rw [zTold_zTold] at hP
          refine lv_aload_n hx hb dMd_perform_306 rfl (lv_at hl 2 rfl) ?_
          refine cm_g hx hb hts hown hK hP 3 (by decide) rfl lMd_19 rfl dMd_perform_307 ?_
          refine lv_iload hx hb dMd_perform_310 (lv_at hl 0 rfl) ?_
          refine lv_iconst (v := 4) hx hb dMd_perform_312 (by decide) ?_
          refine lv_iadd hx hb dMd_perform_313 ?_
          refine lv_topi (fun y_141 ey_141 => ?_)
          obtain rfl : y_141 = nI (pn * 8 + 4) := ey_141.trans (nI_add _ 4)
          refine lv_aload_n hx hb dMd_perform_314 rfl (lv_at hl 2 rfl) ?_
          refine cm_g hx hb hts hown hK hP 21 (by decide) rfl lMd_88 rfl dMd_perform_315 ?_
          refine lv_topi (fun y_142 ey_142 => ?_)
          obtain rfl : y_142 = qCat v := ey_142.trans (by rw [qCat_zTold, qCat_zTrd, qCat_zThr, qCat_zRuns])
          refine cm_sTold (i := (pn * 8 + 4)) (x := qCat v) (by omega) hx hb hK hd hP hS dMd_perform_318 (fun H locs hP hS => ?_)
          rw [qTold_zTold] at hP
          rw [zTold_zTold] at hP
          refine lv_aload_n hx hb dMd_perform_319 rfl (lv_at hl 2 rfl) ?_
          refine cm_g hx hb hts hown hK hP 3 (by decide) rfl lMd_19 rfl dMd_perform_320 ?_
          refine lv_iload hx hb dMd_perform_323 (lv_at hl 0 rfl) ?_
          refine lv_iconst (v := 5) hx hb dMd_perform_325 (by decide) ?_
          refine lv_iadd hx hb dMd_perform_326 ?_
          refine lv_topi (fun y_143 ey_143 => ?_)
          obtain rfl : y_143 = nI (pn * 8 + 5) := ey_143.trans (nI_add _ 5)
          refine lv_aload_n hx hb dMd_perform_327 rfl (lv_at hl 2 rfl) ?_
          refine cm_g hx hb hts hown hK hP 22 (by decide) rfl lMd_52 rfl dMd_perform_328 ?_
          refine lv_topi (fun y_144 ey_144 => ?_)
          obtain rfl : y_144 = qTr v := ey_144.trans (by rw [qTr_zTold, qTr_zTrd, qTr_zThr, qTr_zRuns])
          refine lv_if_lt (tgt := 341) hx hb dMd_perform_331 (by decide) (fun c_145 => ?_) (fun c_145 => ?_)
          · -- 331 taken
            exact absurd c_145 c_89
          · -- 331 not taken
            refine lv_aload_n hx hb dMd_perform_334 rfl (lv_at hl 2 rfl) ?_
            refine cm_g hx hb hts hown hK hP 24 (by decide) rfl lMd_62 rfl dMd_perform_335 ?_
            refine lv_topi (fun y_146 ey_146 => ?_)
            obtain rfl : y_146 = qOrg v := ey_146.trans (by rw [qOrg_zTold, qOrg_zTrd, qOrg_zThr, qOrg_zRuns])
            refine lv_goto (tgt := 342) hx hb dMd_perform_338 (by decide) ?_
            refine cm_sTold (i := (pn * 8 + 5)) (x := qOrg v) (by omega) hx hb hK hd hP hS dMd_perform_342 (fun H locs hP hS => ?_)
            rw [qTold_zTold] at hP
            rw [zTold_zTold] at hP
            refine lv_aload_n hx hb dMd_perform_343 rfl (lv_at hl 2 rfl) ?_
            refine cm_g hx hb hts hown hK hP 3 (by decide) rfl lMd_19 rfl dMd_perform_344 ?_
            refine lv_iload hx hb dMd_perform_347 (lv_at hl 0 rfl) ?_
            refine lv_bipush (v := 6) hx hb dMd_perform_349 (by decide) ?_
            refine lv_iadd hx hb dMd_perform_351 ?_
            refine lv_topi (fun y_147 ey_147 => ?_)
            obtain rfl : y_147 = nI (pn * 8 + 6) := ey_147.trans (nI_add _ 6)
            refine lv_aload_n hx hb dMd_perform_352 rfl (lv_at hl 2 rfl) ?_
            refine cm_g hx hb hts hown hK hP 22 (by decide) rfl lMd_52 rfl dMd_perform_353 ?_
            refine lv_topi (fun y_148 ey_148 => ?_)
            obtain rfl : y_148 = qTr v := ey_148.trans (by rw [qTr_zTold, qTr_zTrd, qTr_zThr, qTr_zRuns])
            refine lv_bipush (v := 10) hx hb dMd_perform_356 (by decide) ?_
            refine lv_icmp_ne (tgt := 368) hx hb dMd_perform_358 (by decide) (fun c_149 => ?_) (fun c_149 => ?_)
            · -- 358 taken
              refine lv_iconst (v := (-1)) hx hb dMd_perform_368 (by decide) ?_
              refine cm_sTold (i := (pn * 8 + 6)) (x := (-1)) (by omega) hx hb hK hd hP hS dMd_perform_369 (fun H locs hP hS => ?_)
              rw [qTold_zTold] at hP
              rw [zTold_zTold] at hP
              refine lv_aload_n hx hb dMd_perform_370 rfl (lv_at hl 2 rfl) ?_
              refine cm_g hx hb hts hown hK hP 3 (by decide) rfl lMd_19 rfl dMd_perform_371 ?_
              refine lv_iload hx hb dMd_perform_374 (lv_at hl 0 rfl) ?_
              refine lv_bipush (v := 7) hx hb dMd_perform_376 (by decide) ?_
              refine lv_iadd hx hb dMd_perform_378 ?_
              refine lv_topi (fun y_150 ey_150 => ?_)
              obtain rfl : y_150 = nI (pn * 8 + 7) := ey_150.trans (nI_add _ 7)
              refine lv_aload_n hx hb dMd_perform_379 rfl (lv_at hl 2 rfl) ?_
              refine cm_g hx hb hts hown hK hP 25 (by decide) rfl lMd_95 rfl dMd_perform_380 ?_
              refine lv_topi (fun y_151 ey_151 => ?_)
              obtain rfl : y_151 = bI (qMark v) := ey_151.trans (by rw [qMark_zTold, qMark_zTrd, qMark_zThr, qMark_zRuns])
              refine lv_if_eq (tgt := 390) hx hb dMd_perform_383 (by decide) (fun c_152 => ?_) (fun c_152 => ?_)
              · -- 383 taken
                refine lv_iconst (v := 0) hx hb dMd_perform_390 (by decide) ?_
                refine cm_sTold (i := (pn * 8 + 7)) (x := 0) (by omega) hx hb hK hd hP hS dMd_perform_391 (fun H locs hP hS => ?_)
                rw [qTold_zTold] at hP
                rw [zTold_zTold] at hP
                refine lv_iconst (v := 0) hx hb dMd_perform_392 (by decide) ?_
                refine lv_istore (lv' := [(5, .int 0), (4, .int (nI (pn * 8))), (3, .int (100 + (qTr v))), (0, .ref (a 0)), (1, .int (nI pn)), (2, .int (bI th))]) hx hb dMd_perform_393 hl (by decide) rfl (fun ls hl => ?_)
                generalize hU : zTold (zTrd (zThr (zRuns v ((qRuns v) + 1)) ((qThr v) + 1)) ((qTrd v) + 1)) (upd (upd (upd (upd (upd (upd (upd (upd (qTold v) (pn * 8) (100 + (qTr v))) (pn * 8 + 1) (qAcc v)) (pn * 8 + 2) (qSteps v)) (pn * 8 + 3) (qFin v)) (pn * 8 + 4) (qCat v)) (pn * 8 + 5) (qOrg v)) (pn * 8 + 6) (-1)) (pn * 8 + 7) 0) = g1 at hP
                have loop5 : ∀ (n j : Nat) (f : Nat → Int32) (H : Heap) (locs : List Loc) (ls : Array Slot), j + n = 8 → (∀ i, i < j → f (pn * 8 + i) = qCell g1 i) → (∀ q, (q < pn * 8 ∨ pn * 8 + 8 ≤ q) → f q = qCls g1 q) → va_P D vwCl (wM a cI cZ (zCls g1 f)) H → va_S (aM a) s.heap H locs → lv_has ls 6 [(0, .ref (a 0)), (1, .int (nI pn)), (3, .int (100 + (qTr v))), (4, .int (nI (pn * 8))), (5, .int (nI j))] → W p l e (headSpec (ce_ws yMd_perform cMd_perform 6 (some .int)) (ce_rm 4)).room s mi (([.ref (a 0), .int (nI pn), .int (bI th)] : List Value).toArray) below meth c H locs 0 0 (MQ below (va_Qi (fun r m2 => (r, m2) = mPerf th pn m) (fun m2 t => va_P D vwCl (wM a cI cZ m2) t.heap) (aM a)) (([.ref (a 0), .int (nI pn), .int (bI th)] : List Value).toArray) s 0 0 (aM a)) (F0 mi 395 ls []) := by
                  intro n
                  induction n with
                  | zero =>
                    intro j f H locs ls hj hf ho hP hS hl
                    refine lv_iload hx hb dMd_perform_395 (lv_at hl 4 rfl) ?_
                    refine lv_bipush (v := 8) hx hb dMd_perform_397 (by decide) ?_
                    refine lv_icmp_ge (tgt := 425) hx hb dMd_perform_399 (by decide) (fun c_153 => ?_) (fun c_153 => ?_)
                    · -- 399 taken
                      refine lv_aload_n hx hb dMd_perform_425 rfl (lv_at hl 0 rfl) ?_
                      refine cm_g hx hb hts hown hK hP 5 (by decide) rfl lMd_25 rfl dMd_perform_426 ?_
                      refine lv_iload_n hx hb dMd_perform_429 rfl (lv_at hl 1 rfl) ?_
                      refine lv_iconst (v := 1) hx hb dMd_perform_430 (by decide) ?_
                      refine cm_sRan (i := pn) (x := true) (by omega) hx hb hK hd hP hS dMd_perform_431 (fun H locs hP hS => ?_)
                      rw [qRan_zCls] at hP
                      refine lv_iload_n hx hb dMd_perform_432 rfl (lv_at hl 2 rfl) ?_
                      exact W.iret (v := 100 + (qTr v)) hx hb hr (fun t9 ht hW => ⟨⟨100 + (qTr v), zRan (zCls g1 f) (va_up (qRan g1) pn true), rfl, mTail_mk hU hv (mCnt_tt c_89 (bI1 c_1)) (if_neg c_89) (told8 (if_neg c_89) (if_neg c_89) (if_neg c_149) (c_152)) (blk8_of (fun i h => hf i (by omega)) ho), ce_hp ht hP⟩, hS.F ht⟩) hS.2.2 dMd_perform_433
                    · -- 399 not taken
                      exact absurd (nI_le (a := 8) (b := j) (by omega) (by omega)) c_153
                  | succ n ihn =>
                    intro j f H locs ls hj hf ho hP hS hl
                    refine lv_iload hx hb dMd_perform_395 (lv_at hl 4 rfl) ?_
                    refine lv_bipush (v := 8) hx hb dMd_perform_397 (by decide) ?_
                    refine lv_icmp_ge (tgt := 425) hx hb dMd_perform_399 (by decide) (fun c_154 => ?_) (fun c_154 => ?_)
                    · -- 399 taken
                      exact absurd c_154 (nI_ge (a := j) (b := 8) (by omega) (by omega))
                    · -- 399 not taken
                      refine lv_aload_n hx hb dMd_perform_402 rfl (lv_at hl 0 rfl) ?_
                      refine cm_g hx hb hts hown hK hP 4 (by decide) rfl lMd_22 rfl dMd_perform_403 ?_
                      refine lv_iload hx hb dMd_perform_406 (lv_at hl 3 rfl) ?_
                      refine lv_iload hx hb dMd_perform_408 (lv_at hl 4 rfl) ?_
                      refine lv_iadd hx hb dMd_perform_410 ?_
                      refine lv_topi (fun y_155 ey_155 => ?_)
                      obtain rfl : y_155 = nI (pn * 8 + j) := ey_155.trans (nI_add _ _)
                      refine lv_aload_n hx hb dMd_perform_411 rfl (lv_at hl 0 rfl) ?_
                      refine cm_g hx hb hts hown hK hP 14 (by decide) rfl lMd_38 rfl dMd_perform_412 ?_
                      refine lv_iload hx hb dMd_perform_415 (lv_at hl 4 rfl) ?_
                      refine cm_lCell (i := j) (by omega) hx hb hK hP dMd_perform_417 ?_
                      refine lv_topi (fun y_156 ey_156 => ?_)
                      obtain rfl : y_156 = qCell g1 j := ey_156.trans (by rw [qCell_zCls])
                      refine cm_sCls (i := (pn * 8 + j)) (x := qCell g1 j) (by omega) hx hb hK hd hP hS dMd_perform_418 (fun H locs hP hS => ?_)
                      rw [qCls_zCls] at hP
                      rw [zCls_zCls] at hP
                      refine lv_iinc (v := nI (j + 1)) (lv' := [(5, .int (nI (j + 1))), (0, .ref (a 0)), (1, .int (nI pn)), (3, .int (100 + (qTr v))), (4, .int (nI (pn * 8)))]) hx hb dMd_perform_419 hl (k := 4) rfl (nI_1 j) (by decide) rfl (fun ls hl => ?_)
                      refine lv_goto (tgt := 395) hx hb dMd_perform_422 (by decide) ?_
                      exact ihn (j + 1) (upd f (pn * 8 + j) (qCell g1 j)) _ _ _ (by omega) (b8_inC hf) (b8_out ho (by omega)) hP hS (lv_sub hl [1, 2, 3, 4, 0] rfl)
                exact loop5 8 0 (qCls g1) _ _ _ rfl (fun i h => absurd h (Nat.not_lt_zero i)) (fun _ _ => rfl) (by rw [zCls_self]; exact hP) hS (lv_sub hl [3, 4, 2, 1, 0] rfl)
              · -- 383 not taken
                refine lv_iconst (v := 1) hx hb dMd_perform_386 (by decide) ?_
                refine lv_goto (tgt := 391) hx hb dMd_perform_387 (by decide) ?_
                refine cm_sTold (i := (pn * 8 + 7)) (x := 1) (by omega) hx hb hK hd hP hS dMd_perform_391 (fun H locs hP hS => ?_)
                rw [qTold_zTold] at hP
                rw [zTold_zTold] at hP
                refine lv_iconst (v := 0) hx hb dMd_perform_392 (by decide) ?_
                refine lv_istore (lv' := [(5, .int 0), (4, .int (nI (pn * 8))), (3, .int (100 + (qTr v))), (0, .ref (a 0)), (1, .int (nI pn)), (2, .int (bI th))]) hx hb dMd_perform_393 hl (by decide) rfl (fun ls hl => ?_)
                generalize hU : zTold (zTrd (zThr (zRuns v ((qRuns v) + 1)) ((qThr v) + 1)) ((qTrd v) + 1)) (upd (upd (upd (upd (upd (upd (upd (upd (qTold v) (pn * 8) (100 + (qTr v))) (pn * 8 + 1) (qAcc v)) (pn * 8 + 2) (qSteps v)) (pn * 8 + 3) (qFin v)) (pn * 8 + 4) (qCat v)) (pn * 8 + 5) (qOrg v)) (pn * 8 + 6) (-1)) (pn * 8 + 7) 1) = g1 at hP
                have loop5 : ∀ (n j : Nat) (f : Nat → Int32) (H : Heap) (locs : List Loc) (ls : Array Slot), j + n = 8 → (∀ i, i < j → f (pn * 8 + i) = qCell g1 i) → (∀ q, (q < pn * 8 ∨ pn * 8 + 8 ≤ q) → f q = qCls g1 q) → va_P D vwCl (wM a cI cZ (zCls g1 f)) H → va_S (aM a) s.heap H locs → lv_has ls 6 [(0, .ref (a 0)), (1, .int (nI pn)), (3, .int (100 + (qTr v))), (4, .int (nI (pn * 8))), (5, .int (nI j))] → W p l e (headSpec (ce_ws yMd_perform cMd_perform 6 (some .int)) (ce_rm 4)).room s mi (([.ref (a 0), .int (nI pn), .int (bI th)] : List Value).toArray) below meth c H locs 0 0 (MQ below (va_Qi (fun r m2 => (r, m2) = mPerf th pn m) (fun m2 t => va_P D vwCl (wM a cI cZ m2) t.heap) (aM a)) (([.ref (a 0), .int (nI pn), .int (bI th)] : List Value).toArray) s 0 0 (aM a)) (F0 mi 395 ls []) := by
                  intro n
                  induction n with
                  | zero =>
                    intro j f H locs ls hj hf ho hP hS hl
                    refine lv_iload hx hb dMd_perform_395 (lv_at hl 4 rfl) ?_
                    refine lv_bipush (v := 8) hx hb dMd_perform_397 (by decide) ?_
                    refine lv_icmp_ge (tgt := 425) hx hb dMd_perform_399 (by decide) (fun c_157 => ?_) (fun c_157 => ?_)
                    · -- 399 taken
                      refine lv_aload_n hx hb dMd_perform_425 rfl (lv_at hl 0 rfl) ?_
                      refine cm_g hx hb hts hown hK hP 5 (by decide) rfl lMd_25 rfl dMd_perform_426 ?_
                      refine lv_iload_n hx hb dMd_perform_429 rfl (lv_at hl 1 rfl) ?_
                      refine lv_iconst (v := 1) hx hb dMd_perform_430 (by decide) ?_
                      refine cm_sRan (i := pn) (x := true) (by omega) hx hb hK hd hP hS dMd_perform_431 (fun H locs hP hS => ?_)
                      rw [qRan_zCls] at hP
                      refine lv_iload_n hx hb dMd_perform_432 rfl (lv_at hl 2 rfl) ?_
                      exact W.iret (v := 100 + (qTr v)) hx hb hr (fun t9 ht hW => ⟨⟨100 + (qTr v), zRan (zCls g1 f) (va_up (qRan g1) pn true), rfl, mTail_mk hU hv (mCnt_tt c_89 (bI1 c_1)) (if_neg c_89) (told8 (if_neg c_89) (if_neg c_89) (if_neg c_149) ((bI_one c_152).symm)) (blk8_of (fun i h => hf i (by omega)) ho), ce_hp ht hP⟩, hS.F ht⟩) hS.2.2 dMd_perform_433
                    · -- 399 not taken
                      exact absurd (nI_le (a := 8) (b := j) (by omega) (by omega)) c_157
                  | succ n ihn =>
                    intro j f H locs ls hj hf ho hP hS hl
                    refine lv_iload hx hb dMd_perform_395 (lv_at hl 4 rfl) ?_
                    refine lv_bipush (v := 8) hx hb dMd_perform_397 (by decide) ?_
                    refine lv_icmp_ge (tgt := 425) hx hb dMd_perform_399 (by decide) (fun c_158 => ?_) (fun c_158 => ?_)
                    · -- 399 taken
                      exact absurd c_158 (nI_ge (a := j) (b := 8) (by omega) (by omega))
                    · -- 399 not taken
                      refine lv_aload_n hx hb dMd_perform_402 rfl (lv_at hl 0 rfl) ?_
                      refine cm_g hx hb hts hown hK hP 4 (by decide) rfl lMd_22 rfl dMd_perform_403 ?_
                      refine lv_iload hx hb dMd_perform_406 (lv_at hl 3 rfl) ?_
                      refine lv_iload hx hb dMd_perform_408 (lv_at hl 4 rfl) ?_
                      refine lv_iadd hx hb dMd_perform_410 ?_
                      refine lv_topi (fun y_159 ey_159 => ?_)
                      obtain rfl : y_159 = nI (pn * 8 + j) := ey_159.trans (nI_add _ _)
                      refine lv_aload_n hx hb dMd_perform_411 rfl (lv_at hl 0 rfl) ?_
                      refine cm_g hx hb hts hown hK hP 14 (by decide) rfl lMd_38 rfl dMd_perform_412 ?_
                      refine lv_iload hx hb dMd_perform_415 (lv_at hl 4 rfl) ?_
                      refine cm_lCell (i := j) (by omega) hx hb hK hP dMd_perform_417 ?_
                      refine lv_topi (fun y_160 ey_160 => ?_)
                      obtain rfl : y_160 = qCell g1 j := ey_160.trans (by rw [qCell_zCls])
                      refine cm_sCls (i := (pn * 8 + j)) (x := qCell g1 j) (by omega) hx hb hK hd hP hS dMd_perform_418 (fun H locs hP hS => ?_)
                      rw [qCls_zCls] at hP
                      rw [zCls_zCls] at hP
                      refine lv_iinc (v := nI (j + 1)) (lv' := [(5, .int (nI (j + 1))), (0, .ref (a 0)), (1, .int (nI pn)), (3, .int (100 + (qTr v))), (4, .int (nI (pn * 8)))]) hx hb dMd_perform_419 hl (k := 4) rfl (nI_1 j) (by decide) rfl (fun ls hl => ?_)
                      refine lv_goto (tgt := 395) hx hb dMd_perform_422 (by decide) ?_
                      exact ihn (j + 1) (upd f (pn * 8 + j) (qCell g1 j)) _ _ _ (by omega) (b8_inC hf) (b8_out ho (by omega)) hP hS (lv_sub hl [1, 2, 3, 4, 0] rfl)
                exact loop5 8 0 (qCls g1) _ _ _ rfl (fun i h => absurd h (Nat.not_lt_zero i)) (fun _ _ => rfl) (by rw [zCls_self]; exact hP) hS (lv_sub hl [3, 4, 2, 1, 0] rfl)
            · -- 358 not taken
              refine lv_aload_n hx hb dMd_perform_361 rfl (lv_at hl 2 rfl) ?_
              refine cm_g hx hb hts hown hK hP 23 (by decide) rfl lMd_56 rfl dMd_perform_362 ?_
              refine lv_topi (fun y_161 ey_161 => ?_)
              obtain rfl : y_161 = qNum v := ey_161.trans (by rw [qNum_zTold, qNum_zTrd, qNum_zThr, qNum_zRuns])
              refine lv_goto (tgt := 369) hx hb dMd_perform_365 (by decide) ?_
              refine cm_sTold (i := (pn * 8 + 6)) (x := qNum v) (by omega) hx hb hK hd hP hS dMd_perform_369 (fun H locs hP hS => ?_)
              rw [qTold_zTold] at hP
              rw [zTold_zTold] at hP
              refine lv_aload_n hx hb dMd_perform_370 rfl (lv_at hl 2 rfl) ?_
              refine cm_g hx hb hts hown hK hP 3 (by decide) rfl lMd_19 rfl dMd_perform_371 ?_
              refine lv_iload hx hb dMd_perform_374 (lv_at hl 0 rfl) ?_
              refine lv_bipush (v := 7) hx hb dMd_perform_376 (by decide) ?_
              refine lv_iadd hx hb dMd_perform_378 ?_
              refine lv_topi (fun y_162 ey_162 => ?_)
              obtain rfl : y_162 = nI (pn * 8 + 7) := ey_162.trans (nI_add _ 7)
              refine lv_aload_n hx hb dMd_perform_379 rfl (lv_at hl 2 rfl) ?_
              refine cm_g hx hb hts hown hK hP 25 (by decide) rfl lMd_95 rfl dMd_perform_380 ?_
              refine lv_topi (fun y_163 ey_163 => ?_)
              obtain rfl : y_163 = bI (qMark v) := ey_163.trans (by rw [qMark_zTold, qMark_zTrd, qMark_zThr, qMark_zRuns])
              refine lv_if_eq (tgt := 390) hx hb dMd_perform_383 (by decide) (fun c_164 => ?_) (fun c_164 => ?_)
              · -- 383 taken
                refine lv_iconst (v := 0) hx hb dMd_perform_390 (by decide) ?_
                refine cm_sTold (i := (pn * 8 + 7)) (x := 0) (by omega) hx hb hK hd hP hS dMd_perform_391 (fun H locs hP hS => ?_)
                rw [qTold_zTold] at hP
                rw [zTold_zTold] at hP
                refine lv_iconst (v := 0) hx hb dMd_perform_392 (by decide) ?_
                refine lv_istore (lv' := [(5, .int 0), (4, .int (nI (pn * 8))), (3, .int (100 + (qTr v))), (0, .ref (a 0)), (1, .int (nI pn)), (2, .int (bI th))]) hx hb dMd_perform_393 hl (by decide) rfl (fun ls hl => ?_)
                generalize hU : zTold (zTrd (zThr (zRuns v ((qRuns v) + 1)) ((qThr v) + 1)) ((qTrd v) + 1)) (upd (upd (upd (upd (upd (upd (upd (upd (qTold v) (pn * 8) (100 + (qTr v))) (pn * 8 + 1) (qAcc v)) (pn * 8 + 2) (qSteps v)) (pn * 8 + 3) (qFin v)) (pn * 8 + 4) (qCat v)) (pn * 8 + 5) (qOrg v)) (pn * 8 + 6) (qNum v)) (pn * 8 + 7) 0) = g1 at hP
                have loop5 : ∀ (n j : Nat) (f : Nat → Int32) (H : Heap) (locs : List Loc) (ls : Array Slot), j + n = 8 → (∀ i, i < j → f (pn * 8 + i) = qCell g1 i) → (∀ q, (q < pn * 8 ∨ pn * 8 + 8 ≤ q) → f q = qCls g1 q) → va_P D vwCl (wM a cI cZ (zCls g1 f)) H → va_S (aM a) s.heap H locs → lv_has ls 6 [(0, .ref (a 0)), (1, .int (nI pn)), (3, .int (100 + (qTr v))), (4, .int (nI (pn * 8))), (5, .int (nI j))] → W p l e (headSpec (ce_ws yMd_perform cMd_perform 6 (some .int)) (ce_rm 4)).room s mi (([.ref (a 0), .int (nI pn), .int (bI th)] : List Value).toArray) below meth c H locs 0 0 (MQ below (va_Qi (fun r m2 => (r, m2) = mPerf th pn m) (fun m2 t => va_P D vwCl (wM a cI cZ m2) t.heap) (aM a)) (([.ref (a 0), .int (nI pn), .int (bI th)] : List Value).toArray) s 0 0 (aM a)) (F0 mi 395 ls []) := by
                  intro n
                  induction n with
                  | zero =>
                    intro j f H locs ls hj hf ho hP hS hl
                    refine lv_iload hx hb dMd_perform_395 (lv_at hl 4 rfl) ?_
                    refine lv_bipush (v := 8) hx hb dMd_perform_397 (by decide) ?_
                    refine lv_icmp_ge (tgt := 425) hx hb dMd_perform_399 (by decide) (fun c_165 => ?_) (fun c_165 => ?_)
                    · -- 399 taken
                      refine lv_aload_n hx hb dMd_perform_425 rfl (lv_at hl 0 rfl) ?_
                      refine cm_g hx hb hts hown hK hP 5 (by decide) rfl lMd_25 rfl dMd_perform_426 ?_
                      refine lv_iload_n hx hb dMd_perform_429 rfl (lv_at hl 1 rfl) ?_
                      refine lv_iconst (v := 1) hx hb dMd_perform_430 (by decide) ?_
                      refine cm_sRan (i := pn) (x := true) (by omega) hx hb hK hd hP hS dMd_perform_431 (fun H locs hP hS => ?_)
                      rw [qRan_zCls] at hP
                      refine lv_iload_n hx hb dMd_perform_432 rfl (lv_at hl 2 rfl) ?_
                      exact W.iret (v := 100 + (qTr v)) hx hb hr (fun t9 ht hW => ⟨⟨100 + (qTr v), zRan (zCls g1 f) (va_up (qRan g1) pn true), rfl, mTail_mk hU hv (mCnt_tt c_89 (bI1 c_1)) (if_neg c_89) (told8 (if_neg c_89) (if_neg c_89) (if_pos c_149) (c_164)) (blk8_of (fun i h => hf i (by omega)) ho), ce_hp ht hP⟩, hS.F ht⟩) hS.2.2 dMd_perform_433
                    · -- 399 not taken
                      exact absurd (nI_le (a := 8) (b := j) (by omega) (by omega)) c_165
                  | succ n ihn =>
                    intro j f H locs ls hj hf ho hP hS hl
                    refine lv_iload hx hb dMd_perform_395 (lv_at hl 4 rfl) ?_
                    refine lv_bipush (v := 8) hx hb dMd_perform_397 (by decide) ?_
                    refine lv_icmp_ge (tgt := 425) hx hb dMd_perform_399 (by decide) (fun c_166 => ?_) (fun c_166 => ?_)
                    · -- 399 taken
                      exact absurd c_166 (nI_ge (a := j) (b := 8) (by omega) (by omega))
                    · -- 399 not taken
                      refine lv_aload_n hx hb dMd_perform_402 rfl (lv_at hl 0 rfl) ?_
                      refine cm_g hx hb hts hown hK hP 4 (by decide) rfl lMd_22 rfl dMd_perform_403 ?_
                      refine lv_iload hx hb dMd_perform_406 (lv_at hl 3 rfl) ?_
                      refine lv_iload hx hb dMd_perform_408 (lv_at hl 4 rfl) ?_
                      refine lv_iadd hx hb dMd_perform_410 ?_
                      refine lv_topi (fun y_167 ey_167 => ?_)
                      obtain rfl : y_167 = nI (pn * 8 + j) := ey_167.trans (nI_add _ _)
                      refine lv_aload_n hx hb dMd_perform_411 rfl (lv_at hl 0 rfl) ?_
                      refine cm_g hx hb hts hown hK hP 14 (by decide) rfl lMd_38 rfl dMd_perform_412 ?_
                      refine lv_iload hx hb dMd_perform_415 (lv_at hl 4 rfl) ?_
                      refine cm_lCell (i := j) (by omega) hx hb hK hP dMd_perform_417 ?_
                      refine lv_topi (fun y_168 ey_168 => ?_)
                      obtain rfl : y_168 = qCell g1 j := ey_168.trans (by rw [qCell_zCls])
                      refine cm_sCls (i := (pn * 8 + j)) (x := qCell g1 j) (by omega) hx hb hK hd hP hS dMd_perform_418 (fun H locs hP hS => ?_)
                      rw [qCls_zCls] at hP
                      rw [zCls_zCls] at hP
                      refine lv_iinc (v := nI (j + 1)) (lv' := [(5, .int (nI (j + 1))), (0, .ref (a 0)), (1, .int (nI pn)), (3, .int (100 + (qTr v))), (4, .int (nI (pn * 8)))]) hx hb dMd_perform_419 hl (k := 4) rfl (nI_1 j) (by decide) rfl (fun ls hl => ?_)
                      refine lv_goto (tgt := 395) hx hb dMd_perform_422 (by decide) ?_
                      exact ihn (j + 1) (upd f (pn * 8 + j) (qCell g1 j)) _ _ _ (by omega) (b8_inC hf) (b8_out ho (by omega)) hP hS (lv_sub hl [1, 2, 3, 4, 0] rfl)
                exact loop5 8 0 (qCls g1) _ _ _ rfl (fun i h => absurd h (Nat.not_lt_zero i)) (fun _ _ => rfl) (by rw [zCls_self]; exact hP) hS (lv_sub hl [3, 4, 2, 1, 0] rfl)
              · -- 383 not taken
                refine lv_iconst (v := 1) hx hb dMd_perform_386 (by decide) ?_
                refine lv_goto (tgt := 391) hx hb dMd_perform_387 (by decide) ?_
                refine cm_sTold (i := (pn * 8 + 7)) (x := 1) (by omega) hx hb hK hd hP hS dMd_perform_391 (fun H locs hP hS => ?_)
                rw [qTold_zTold] at hP
                rw [zTold_zTold] at hP
                refine lv_iconst (v := 0) hx hb dMd_perform_392 (by decide) ?_
                refine lv_istore (lv' := [(5, .int 0), (4, .int (nI (pn * 8))), (3, .int (100 + (qTr v))), (0, .ref (a 0)), (1, .int (nI pn)), (2, .int (bI th))]) hx hb dMd_perform_393 hl (by decide) rfl (fun ls hl => ?_)
                generalize hU : zTold (zTrd (zThr (zRuns v ((qRuns v) + 1)) ((qThr v) + 1)) ((qTrd v) + 1)) (upd (upd (upd (upd (upd (upd (upd (upd (qTold v) (pn * 8) (100 + (qTr v))) (pn * 8 + 1) (qAcc v)) (pn * 8 + 2) (qSteps v)) (pn * 8 + 3) (qFin v)) (pn * 8 + 4) (qCat v)) (pn * 8 + 5) (qOrg v)) (pn * 8 + 6) (qNum v)) (pn * 8 + 7) 1) = g1 at hP
                have loop5 : ∀ (n j : Nat) (f : Nat → Int32) (H : Heap) (locs : List Loc) (ls : Array Slot), j + n = 8 → (∀ i, i < j → f (pn * 8 + i) = qCell g1 i) → (∀ q, (q < pn * 8 ∨ pn * 8 + 8 ≤ q) → f q = qCls g1 q) → va_P D vwCl (wM a cI cZ (zCls g1 f)) H → va_S (aM a) s.heap H locs → lv_has ls 6 [(0, .ref (a 0)), (1, .int (nI pn)), (3, .int (100 + (qTr v))), (4, .int (nI (pn * 8))), (5, .int (nI j))] → W p l e (headSpec (ce_ws yMd_perform cMd_perform 6 (some .int)) (ce_rm 4)).room s mi (([.ref (a 0), .int (nI pn), .int (bI th)] : List Value).toArray) below meth c H locs 0 0 (MQ below (va_Qi (fun r m2 => (r, m2) = mPerf th pn m) (fun m2 t => va_P D vwCl (wM a cI cZ m2) t.heap) (aM a)) (([.ref (a 0), .int (nI pn), .int (bI th)] : List Value).toArray) s 0 0 (aM a)) (F0 mi 395 ls []) := by
                  intro n
                  induction n with
                  | zero =>
                    intro j f H locs ls hj hf ho hP hS hl
                    refine lv_iload hx hb dMd_perform_395 (lv_at hl 4 rfl) ?_
                    refine lv_bipush (v := 8) hx hb dMd_perform_397 (by decide) ?_
                    refine lv_icmp_ge (tgt := 425) hx hb dMd_perform_399 (by decide) (fun c_169 => ?_) (fun c_169 => ?_)
                    · -- 399 taken
                      refine lv_aload_n hx hb dMd_perform_425 rfl (lv_at hl 0 rfl) ?_
                      refine cm_g hx hb hts hown hK hP 5 (by decide) rfl lMd_25 rfl dMd_perform_426 ?_
                      refine lv_iload_n hx hb dMd_perform_429 rfl (lv_at hl 1 rfl) ?_
                      refine lv_iconst (v := 1) hx hb dMd_perform_430 (by decide) ?_
                      refine cm_sRan (i := pn) (x := true) (by omega) hx hb hK hd hP hS dMd_perform_431 (fun H locs hP hS => ?_)
                      rw [qRan_zCls] at hP
                      refine lv_iload_n hx hb dMd_perform_432 rfl (lv_at hl 2 rfl) ?_
                      exact W.iret (v := 100 + (qTr v)) hx hb hr (fun t9 ht hW => ⟨⟨100 + (qTr v), zRan (zCls g1 f) (va_up (qRan g1) pn true), rfl, mTail_mk hU hv (mCnt_tt c_89 (bI1 c_1)) (if_neg c_89) (told8 (if_neg c_89) (if_neg c_89) (if_pos c_149) ((bI_one c_164).symm)) (blk8_of (fun i h => hf i (by omega)) ho), ce_hp ht hP⟩, hS.F ht⟩) hS.2.2 dMd_perform_433
                    · -- 399 not taken
                      exact absurd (nI_le (a := 8) (b := j) (by omega) (by omega)) c_169
                  | succ n ihn =>
                    intro j f H locs ls hj hf ho hP hS hl
                    refine lv_iload hx hb dMd_perform_395 (lv_at hl 4 rfl) ?_
                    refine lv_bipush (v := 8) hx hb dMd_perform_397 (by decide) ?_
                    refine lv_icmp_ge (tgt := 425) hx hb dMd_perform_399 (by decide) (fun c_170 => ?_) (fun c_170 => ?_)
                    · -- 399 taken
                      exact absurd c_170 (nI_ge (a := j) (b := 8) (by omega) (by omega))
                    · -- 399 not taken
                      refine lv_aload_n hx hb dMd_perform_402 rfl (lv_at hl 0 rfl) ?_
                      refine cm_g hx hb hts hown hK hP 4 (by decide) rfl lMd_22 rfl dMd_perform_403 ?_
                      refine lv_iload hx hb dMd_perform_406 (lv_at hl 3 rfl) ?_
                      refine lv_iload hx hb dMd_perform_408 (lv_at hl 4 rfl) ?_
                      refine lv_iadd hx hb dMd_perform_410 ?_
                      refine lv_topi (fun y_171 ey_171 => ?_)
                      obtain rfl : y_171 = nI (pn * 8 + j) := ey_171.trans (nI_add _ _)
                      refine lv_aload_n hx hb dMd_perform_411 rfl (lv_at hl 0 rfl) ?_
                      refine cm_g hx hb hts hown hK hP 14 (by decide) rfl lMd_38 rfl dMd_perform_412 ?_
                      refine lv_iload hx hb dMd_perform_415 (lv_at hl 4 rfl) ?_
                      refine cm_lCell (i := j) (by omega) hx hb hK hP dMd_perform_417 ?_
                      refine lv_topi (fun y_172 ey_172 => ?_)
                      obtain rfl : y_172 = qCell g1 j := ey_172.trans (by rw [qCell_zCls])
                      refine cm_sCls (i := (pn * 8 + j)) (x := qCell g1 j) (by omega) hx hb hK hd hP hS dMd_perform_418 (fun H locs hP hS => ?_)
                      rw [qCls_zCls] at hP
                      rw [zCls_zCls] at hP
                      refine lv_iinc (v := nI (j + 1)) (lv' := [(5, .int (nI (j + 1))), (0, .ref (a 0)), (1, .int (nI pn)), (3, .int (100 + (qTr v))), (4, .int (nI (pn * 8)))]) hx hb dMd_perform_419 hl (k := 4) rfl (nI_1 j) (by decide) rfl (fun ls hl => ?_)
                      refine lv_goto (tgt := 395) hx hb dMd_perform_422 (by decide) ?_
                      exact ihn (j + 1) (upd f (pn * 8 + j) (qCell g1 j)) _ _ _ (by omega) (b8_inC hf) (b8_out ho (by omega)) hP hS (lv_sub hl [1, 2, 3, 4, 0] rfl)
                exact loop5 8 0 (qCls g1) _ _ _ rfl (fun i h => absurd h (Nat.not_lt_zero i)) (fun _ _ => rfl) (by rw [zCls_self]; exact hP) hS (lv_sub hl [3, 4, 2, 1, 0] rfl)
  have loop : ∀ (n j : Nat) (v : MS) (H : Heap) (locs : List Loc) (ls : Array Slot), j + n = 100000 → mOk v → qProg v = pn → mLoop th n v = mLoop th 100000 (mBegin m pn) → va_P D vwCl (wM a cI cZ v) H → va_S (aM a) s.heap H locs → lv_has ls 6 [(0, .ref (a 0)), (1, .int (nI pn)), (2, .int (bI th)), (3, .int (nI j))] → W p l e (headSpec (ce_ws yMd_perform cMd_perform 6 (some .int)) (ce_rm 4)).room s mi (([.ref (a 0), .int (nI pn), .int (bI th)] : List Value).toArray) below meth c H locs 0 0 (MQ below (va_Qi (fun r m2 => (r, m2) = mPerf th pn m) (fun m2 t => va_P D vwCl (wM a cI cZ m2) t.heap) (aM a)) (([.ref (a 0), .int (nI pn), .int (bI th)] : List Value).toArray) s 0 0 (aM a)) (F0 mi 97 ls []) := by
    intro n
    induction n with
    | zero =>
      intro j v H locs ls hj hok hpr hq hP hS hl
      refine lv_iload_n hx hb dMd_perform_97 rfl (lv_at hl 3 rfl) ?_
      refine lv_ldc (v := 100000) hx hb hown (hts _ (List.mem_cons_of_mem _ kMd_122)) dMd_perform_98 ?_
      refine lv_icmp_ge (tgt := 193) hx hb dMd_perform_100 (by decide) (fun c_173 => ?_) (fun c_173 => ?_)
      · -- 100 taken
        exact tail v _ _ _ hq hP hS (lv_sub hl [0, 1, 2] rfl)
      · -- 100 not taken
        exact absurd (nI_le (a := 100000) (b := j) (by omega) (by omega)) c_173
    | succ n ihn =>
      intro j v H locs ls hj hok hpr hq hP hS hl
      have hop15 : qOpen v < 15 := hok.2.2.2.1
      refine lv_iload_n hx hb dMd_perform_97 rfl (lv_at hl 3 rfl) ?_
      refine lv_ldc (v := 100000) hx hb hown (hts _ (List.mem_cons_of_mem _ kMd_122)) dMd_perform_98 ?_
      refine lv_icmp_ge (tgt := 193) hx hb dMd_perform_100 (by decide) (fun c_174 => ?_) (fun c_174 => ?_)
      · -- 100 taken
        exact absurd c_174 (nI_ge (a := j) (b := 100000) (by omega) (by decide))
      · -- 100 not taken
        refine lv_aload_n hx hb dMd_perform_103 rfl (lv_at hl 0 rfl) ?_
        refine cm_g hx hb hts hown hK hP 22 (by decide) rfl lMd_52 rfl dMd_perform_104 ?_
        refine lv_if_ge (tgt := 121) hx hb dMd_perform_107 (by decide) (fun c_175 => ?_) (fun c_175 => ?_)
        · -- 107 taken
          refine lv_iconst (v := 0) hx hb dMd_perform_121 (by decide) ?_
          refine lv_istore (lv' := [(4, .int 0), (0, .ref (a 0)), (1, .int (nI pn)), (2, .int (bI th)), (3, .int (nI j))]) hx hb dMd_perform_122 hl (by decide) rfl (fun ls hl => ?_)
          refine lv_aload_n hx hb dMd_perform_124 rfl (lv_at hl 1 rfl) ?_
          refine cm_g hx hb hts hown hK hP 13 (by decide) rfl lMd_68 rfl dMd_perform_125 ?_
          refine lv_if_le (tgt := 161) hx hb dMd_perform_128 (by decide) (fun c_176 => ?_) (fun c_176 => ?_)
          · -- 128 taken
            refine lv_iload hx hb dMd_perform_161 (lv_at hl 0 rfl) ?_
            refine lv_if_eq (tgt := 193) hx hb dMd_perform_163 (by decide) (fun c_177 => ?_) (fun c_177 => ?_)
            · -- 163 taken
              exact tail v _ _ _ ((mLoop_stop (fun q => absurd q.1 (by rw [nI_le0 (by omega) c_176]; decide)) (Or.inl (mGo_t c_175))).symm.trans hq) hP hS (lv_sub hl [1, 2, 3] rfl)
            · -- 163 not taken
              exact absurd c_177 (by decide)
          · -- 128 not taken
            have hopen : 0 < qOpen v := (nI_ltI (a := 0) (by decide) (by omega)).mp (Int32.not_le.mp c_176)
            have hob := hok.2.2.2.2.1 (qOpen v - 1) (by omega)
            have hsz14 := hok.2.1
            refine lv_iload hx hb dMd_perform_131 (lv_at hl 0 rfl) ?_
            refine lv_if_eq (tgt := 154) hx hb dMd_perform_133 (by decide) (fun c_178 => ?_) (fun c_178 => ?_)
            · -- 133 taken
              refine lv_aload_n hx hb dMd_perform_154 rfl (lv_at hl 1 rfl) ?_
              refine cm_vv (As := []) (rest := []) ⟨hx, hb, hml, hown, hts⟩ (c_Md_leave l D cI cZ a hd v (qOpen v - 1) hok.1 (by omega) (by omega) (by omega) (mOk_op hok hopen) (mOk_arg hok hopen) hob.2.2.2.2.2.2) mMd_leave lMd_123 iMd_leave (ce_hR (by omega) (by decide)) ⟨rfl, rfl⟩ hK hP hS rfl hl.1 rfl (Nat.le_of_ble_eq_true rfl) dMd_perform_155 ⟨Nat.le_of_ble_eq_true rfl, Nat.le_of_ble_eq_true rfl⟩ (fun m_179 H locs em_179 hP hS => ?_)
              obtain rfl := em_179
              refine lv_goto (tgt := 187) hx hb dMd_perform_158 (by decide) ?_
              refine lv_iinc (v := nI (j + 1)) (lv' := [(3, .int (nI (j + 1))), (4, .int 0), (0, .ref (a 0)), (1, .int (nI pn)), (2, .int (bI th))]) hx hb dMd_perform_187 hl (k := 4) rfl (nI_1 j) (by decide) rfl (fun ls hl => ?_)
              refine lv_goto (tgt := 97) hx hb dMd_perform_190 (by decide) ?_
              exact ihn (j + 1) _ _ _ _ (by omega) (mOk_leave hok hopen (Or.inl (mGo_t c_175))) ((mLeave_prog v _).trans hpr) ((mLoop_leave hopen (Or.inl (mGo_t c_175))).symm.trans hq) hP hS (lv_sub hl [2, 3, 4, 0] rfl)
            · -- 133 not taken
              exact absurd c_178 (by decide)
        · -- 107 not taken
          refine lv_aload_n hx hb dMd_perform_110 rfl (lv_at hl 0 rfl) ?_
          refine cm_g hx hb hts hown hK hP 26 (by decide) rfl lMd_81 rfl dMd_perform_111 ?_
          refine lv_if_ne (tgt := 121) hx hb dMd_perform_114 (by decide) (fun c_180 => ?_) (fun c_180 => ?_)
          · -- 114 taken
            refine lv_iconst (v := 0) hx hb dMd_perform_121 (by decide) ?_
            refine lv_istore (lv' := [(4, .int 0), (0, .ref (a 0)), (1, .int (nI pn)), (2, .int (bI th)), (3, .int (nI j))]) hx hb dMd_perform_122 hl (by decide) rfl (fun ls hl => ?_)
            refine lv_aload_n hx hb dMd_perform_124 rfl (lv_at hl 1 rfl) ?_
            refine cm_g hx hb hts hown hK hP 13 (by decide) rfl lMd_68 rfl dMd_perform_125 ?_
            refine lv_if_le (tgt := 161) hx hb dMd_perform_128 (by decide) (fun c_181 => ?_) (fun c_181 => ?_)
            · -- 128 taken
              refine lv_iload hx hb dMd_perform_161 (lv_at hl 0 rfl) ?_
              refine lv_if_eq (tgt := 193) hx hb dMd_perform_163 (by decide) (fun c_182 => ?_) (fun c_182 => ?_)
              · -- 163 taken
                exact tail v _ _ _ ((mLoop_stop (fun q => absurd q.1 (by rw [nI_le0 (by omega) c_181]; decide)) (Or.inl (mGo_s c_180))).symm.trans hq) hP hS (lv_sub hl [1, 2, 3] rfl)
              · -- 163 not taken
                exact absurd c_182 (by decide)
            · -- 128 not taken
              have hopen : 0 < qOpen v := (nI_ltI (a := 0) (by decide) (by omega)).mp (Int32.not_le.mp c_181)
              have hob := hok.2.2.2.2.1 (qOpen v - 1) (by omega)
              have hsz14 := hok.2.1
              refine lv_iload hx hb dMd_perform_131 (lv_at hl 0 rfl) ?_
              refine lv_if_eq (tgt := 154) hx hb dMd_perform_133 (by decide) (fun c_183 => ?_) (fun c_183 => ?_)
              · -- 133 taken
                refine lv_aload_n hx hb dMd_perform_154 rfl (lv_at hl 1 rfl) ?_
                refine cm_vv (As := []) (rest := []) ⟨hx, hb, hml, hown, hts⟩ (c_Md_leave l D cI cZ a hd v (qOpen v - 1) hok.1 (by omega) (by omega) (by omega) (mOk_op hok hopen) (mOk_arg hok hopen) hob.2.2.2.2.2.2) mMd_leave lMd_123 iMd_leave (ce_hR (by omega) (by decide)) ⟨rfl, rfl⟩ hK hP hS rfl hl.1 rfl (Nat.le_of_ble_eq_true rfl) dMd_perform_155 ⟨Nat.le_of_ble_eq_true rfl, Nat.le_of_ble_eq_true rfl⟩ (fun m_184 H locs em_184 hP hS => ?_)
                obtain rfl := em_184
                refine lv_goto (tgt := 187) hx hb dMd_perform_158 (by decide) ?_
                refine lv_iinc (v := nI (j + 1)) (lv' := [(3, .int (nI (j + 1))), (4, .int 0), (0, .ref (a 0)), (1, .int (nI pn)), (2, .int (bI th))]) hx hb dMd_perform_187 hl (k := 4) rfl (nI_1 j) (by decide) rfl (fun ls hl => ?_)
                refine lv_goto (tgt := 97) hx hb dMd_perform_190 (by decide) ?_
                exact ihn (j + 1) _ _ _ _ (by omega) (mOk_leave hok hopen (Or.inl (mGo_s c_180))) ((mLeave_prog v _).trans hpr) ((mLoop_leave hopen (Or.inl (mGo_s c_180))).symm.trans hq) hP hS (lv_sub hl [2, 3, 4, 0] rfl)
              · -- 133 not taken
                exact absurd c_183 (by decide)
          · -- 114 not taken
            refine lv_iconst (v := 1) hx hb dMd_perform_117 (by decide) ?_
            refine lv_goto (tgt := 122) hx hb dMd_perform_118 (by decide) ?_
            refine lv_istore (lv' := [(4, .int 1), (0, .ref (a 0)), (1, .int (nI pn)), (2, .int (bI th)), (3, .int (nI j))]) hx hb dMd_perform_122 hl (by decide) rfl (fun ls hl => ?_)
            refine lv_aload_n hx hb dMd_perform_124 rfl (lv_at hl 1 rfl) ?_
            refine cm_g hx hb hts hown hK hP 13 (by decide) rfl lMd_68 rfl dMd_perform_125 ?_
            refine lv_if_le (tgt := 161) hx hb dMd_perform_128 (by decide) (fun c_185 => ?_) (fun c_185 => ?_)
            · -- 128 taken
              refine lv_iload hx hb dMd_perform_161 (lv_at hl 0 rfl) ?_
              refine lv_if_eq (tgt := 193) hx hb dMd_perform_163 (by decide) (fun c_186 => ?_) (fun c_186 => ?_)
              · -- 163 taken
                exact absurd c_186 (by decide)
              · -- 163 not taken
                refine lv_aload_n hx hb dMd_perform_166 rfl (lv_at hl 1 rfl) ?_
                refine cm_g hx hb hts hown hK hP 17 (by decide) rfl lMd_59 rfl dMd_perform_167 ?_
                refine lv_aload_n hx hb dMd_perform_170 rfl (lv_at hl 1 rfl) ?_
                refine cm_g hx hb hts hown hK hP 2 (by decide) rfl lMd_16 rfl dMd_perform_171 ?_
                refine lv_iload_n hx hb dMd_perform_174 rfl (lv_at hl 2 rfl) ?_
                refine cm_lSize (i := pn) (by omega) hx hb hK hP dMd_perform_175 ?_
                refine lv_icmp_ne (tgt := 182) hx hb dMd_perform_176 (by decide) (fun c_187 => ?_) (fun c_187 => ?_)
                · -- 176 taken
                  have hgo : mGo v = true := mGo_y c_175 c_180
                  have hns : ¬ qAt v = qSize v (qProg v) := fun h => c_187 (by rw [h, hpr])
                  have hat : qAt v < mLim v := mOk_lt hok hgo (fun q => absurd q.1 (by rw [nI_le0 (by omega) c_185]; decide)) hns
                  have hL := mOk_lim hok
                  have hin := mOk_in hok hat
                  refine lv_aload_n hx hb dMd_perform_182 rfl (lv_at hl 1 rfl) ?_
                  refine lv_iload_n hx hb dMd_perform_183 rfl (lv_at hl 3 rfl) ?_
                  refine cm_vv (As := [.int (bI th)]) (rest := []) ⟨hx, hb, hml, hown, hts⟩ (c_Md_step l D cI cZ a hd v th hok.1 (by omega) hin.1 hin.2 hop15 hL) mMd_step lMd_126 iMd_step (ce_hR (by omega) (by decide)) ⟨rfl, rfl⟩ hK hP hS rfl hl.1 rfl (Nat.le_of_ble_eq_true rfl) dMd_perform_184 ⟨Nat.le_of_ble_eq_true rfl, Nat.le_of_ble_eq_true rfl⟩ (fun m_188 H locs em_188 hP hS => ?_)
                  obtain rfl := em_188
                  refine lv_iinc (v := nI (j + 1)) (lv' := [(3, .int (nI (j + 1))), (4, .int 1), (0, .ref (a 0)), (1, .int (nI pn)), (2, .int (bI th))]) hx hb dMd_perform_187 hl (k := 4) rfl (nI_1 j) (by decide) rfl (fun ls hl => ?_)
                  refine lv_goto (tgt := 97) hx hb dMd_perform_190 (by decide) ?_
                  exact ihn (j + 1) _ _ _ _ (by omega) (mOk_step th hok hgo hat) ((mStep_prog th v).trans hpr) ((mLoop_step (fun q => absurd q.1 (by rw [nI_le0 (by omega) c_185]; decide)) (fun q => q.elim (fun h => absurd h (by rw [hgo]; decide)) (fun h => hns h))).symm.trans hq) hP hS (lv_sub hl [2, 3, 4, 0] rfl)
                · -- 176 not taken
                  have hszb := hok.2.1
                  have hab := mOk_atle hok (mGo_y c_175 c_180)
                  have hsz : nI (qAt v) = nI (qSize v pn) → qAt v = qSize v (qProg v) := fun h => by rw [hpr]; rw [hpr] at hszb; exact (nI_eq (by omega) (by omega)).mp h
                  refine lv_goto (tgt := 193) hx hb dMd_perform_179 (by decide) ?_
                  exact tail v _ _ _ ((mLoop_stop (fun q => absurd q.1 (by rw [nI_le0 (by omega) c_185]; decide)) (Or.inr (hsz c_187))).symm.trans hq) hP hS (lv_sub hl [1, 2, 3] rfl)
            · -- 128 not taken
              have hopen : 0 < qOpen v := (nI_ltI (a := 0) (by decide) (by omega)).mp (Int32.not_le.mp c_185)
              have hob := hok.2.2.2.2.1 (qOpen v - 1) (by omega)
              have hsz14 := hok.2.1
              refine lv_iload hx hb dMd_perform_131 (lv_at hl 0 rfl) ?_
              refine lv_if_eq (tgt := 154) hx hb dMd_perform_133 (by decide) (fun c_189 => ?_) (fun c_189 => ?_)
              · -- 133 taken
                exact absurd c_189 (by decide)
              · -- 133 not taken
                refine lv_aload_n hx hb dMd_perform_136 rfl (lv_at hl 1 rfl) ?_
                refine cm_g hx hb hts hown hK hP 17 (by decide) rfl lMd_59 rfl dMd_perform_137 ?_
                refine lv_aload_n hx hb dMd_perform_140 rfl (lv_at hl 1 rfl) ?_
                refine cm_g hx hb hts hown hK hP 11 (by decide) rfl lMd_32 rfl dMd_perform_141 ?_
                refine lv_aload_n hx hb dMd_perform_144 rfl (lv_at hl 1 rfl) ?_
                refine cm_g hx hb hts hown hK hP 13 (by decide) rfl lMd_68 rfl dMd_perform_145 ?_
                refine lv_iconst (v := 1) hx hb dMd_perform_148 (by decide) ?_
                refine lv_isub hx hb dMd_perform_149 ?_
                refine lv_topi (fun y_190 ey_190 => ?_)
                obtain rfl : y_190 = nI (qOpen v - 1) := ey_190.trans (pk_sub (b := 1) (by omega))
                refine cm_lEnd (i := (qOpen v - 1)) (by omega) hx hb hK hP dMd_perform_150 ?_
                refine lv_icmp_ne (tgt := 161) hx hb dMd_perform_151 (by decide) (fun c_191 => ?_) (fun c_191 => ?_)
                · -- 151 taken
                  refine lv_iload hx hb dMd_perform_161 (lv_at hl 0 rfl) ?_
                  refine lv_if_eq (tgt := 193) hx hb dMd_perform_163 (by decide) (fun c_192 => ?_) (fun c_192 => ?_)
                  · -- 163 taken
                    exact absurd c_192 (by decide)
                  · -- 163 not taken
                    refine lv_aload_n hx hb dMd_perform_166 rfl (lv_at hl 1 rfl) ?_
                    refine cm_g hx hb hts hown hK hP 17 (by decide) rfl lMd_59 rfl dMd_perform_167 ?_
                    refine lv_aload_n hx hb dMd_perform_170 rfl (lv_at hl 1 rfl) ?_
                    refine cm_g hx hb hts hown hK hP 2 (by decide) rfl lMd_16 rfl dMd_perform_171 ?_
                    refine lv_iload_n hx hb dMd_perform_174 rfl (lv_at hl 2 rfl) ?_
                    refine cm_lSize (i := pn) (by omega) hx hb hK hP dMd_perform_175 ?_
                    refine lv_icmp_ne (tgt := 182) hx hb dMd_perform_176 (by decide) (fun c_193 => ?_) (fun c_193 => ?_)
                    · -- 176 taken
                      have hgo : mGo v = true := mGo_y c_175 c_180
                      have hns : ¬ qAt v = qSize v (qProg v) := fun h => c_193 (by rw [h, hpr])
                      have hat : qAt v < mLim v := mOk_lt hok hgo (fun q => q.2.elim (fun h => absurd h (by rw [mGo_y c_175 c_180]; decide)) (fun h => c_191 (congrArg nI h))) hns
                      have hL := mOk_lim hok
                      have hin := mOk_in hok hat
                      refine lv_aload_n hx hb dMd_perform_182 rfl (lv_at hl 1 rfl) ?_
                      refine lv_iload_n hx hb dMd_perform_183 rfl (lv_at hl 3 rfl) ?_
                      refine cm_vv (As := [.int (bI th)]) (rest := []) ⟨hx, hb, hml, hown, hts⟩ (c_Md_step l D cI cZ a hd v th hok.1 (by omega) hin.1 hin.2 hop15 hL) mMd_step lMd_126 iMd_step (ce_hR (by omega) (by decide)) ⟨rfl, rfl⟩ hK hP hS rfl hl.1 rfl (Nat.le_of_ble_eq_true rfl) dMd_perform_184 ⟨Nat.le_of_ble_eq_true rfl, Nat.le_of_ble_eq_true rfl⟩ (fun m_194 H locs em_194 hP hS => ?_)
                      obtain rfl := em_194
                      refine lv_iinc (v := nI (j + 1)) (lv' := [(3, .int (nI (j + 1))), (4, .int 1), (0, .ref (a 0)), (1, .int (nI pn)), (2, .int (bI th))]) hx hb dMd_perform_187 hl (k := 4) rfl (nI_1 j) (by decide) rfl (fun ls hl => ?_)
                      refine lv_goto (tgt := 97) hx hb dMd_perform_190 (by decide) ?_
                      exact ihn (j + 1) _ _ _ _ (by omega) (mOk_step th hok hgo hat) ((mStep_prog th v).trans hpr) ((mLoop_step (fun q => q.2.elim (fun h => absurd h (by rw [mGo_y c_175 c_180]; decide)) (fun h => c_191 (congrArg nI h))) (fun q => q.elim (fun h => absurd h (by rw [hgo]; decide)) (fun h => hns h))).symm.trans hq) hP hS (lv_sub hl [2, 3, 4, 0] rfl)
                    · -- 176 not taken
                      have hszb := hok.2.1
                      have hab := mOk_atle hok (mGo_y c_175 c_180)
                      have hsz : nI (qAt v) = nI (qSize v pn) → qAt v = qSize v (qProg v) := fun h => by rw [hpr]; rw [hpr] at hszb; exact (nI_eq (by omega) (by omega)).mp h
                      refine lv_goto (tgt := 193) hx hb dMd_perform_179 (by decide) ?_
                      exact tail v _ _ _ ((mLoop_stop (fun q => q.2.elim (fun h => absurd h (by rw [mGo_y c_175 c_180]; decide)) (fun h => c_191 (congrArg nI h))) (Or.inr (hsz c_193))).symm.trans hq) hP hS (lv_sub hl [1, 2, 3] rfl)
                · -- 151 not taken
                  have hab := mOk_atle hok (mGo_y c_175 c_180)
                  refine lv_aload_n hx hb dMd_perform_154 rfl (lv_at hl 1 rfl) ?_
                  refine cm_vv (As := []) (rest := []) ⟨hx, hb, hml, hown, hts⟩ (c_Md_leave l D cI cZ a hd v (qOpen v - 1) hok.1 (by omega) (by omega) (by omega) (mOk_op hok hopen) (mOk_arg hok hopen) hob.2.2.2.2.2.2) mMd_leave lMd_123 iMd_leave (ce_hR (by omega) (by decide)) ⟨rfl, rfl⟩ hK hP hS rfl hl.1 rfl (Nat.le_of_ble_eq_true rfl) dMd_perform_155 ⟨Nat.le_of_ble_eq_true rfl, Nat.le_of_ble_eq_true rfl⟩ (fun m_195 H locs em_195 hP hS => ?_)
                  obtain rfl := em_195
                  refine lv_goto (tgt := 187) hx hb dMd_perform_158 (by decide) ?_
                  refine lv_iinc (v := nI (j + 1)) (lv' := [(3, .int (nI (j + 1))), (4, .int 1), (0, .ref (a 0)), (1, .int (nI pn)), (2, .int (bI th))]) hx hb dMd_perform_187 hl (k := 4) rfl (nI_1 j) (by decide) rfl (fun ls hl => ?_)
                  refine lv_goto (tgt := 97) hx hb dMd_perform_190 (by decide) ?_
                  exact ihn (j + 1) _ _ _ _ (by omega) (mOk_leave hok hopen (Or.inr ((nI_eq (by omega) (by omega)).mp c_191))) ((mLeave_prog v _).trans hpr) ((mLoop_leave hopen (Or.inr ((nI_eq (by omega) (by omega)).mp c_191))).symm.trans hq) hP hS (lv_sub hl [2, 3, 4, 0] rfl)
  refine lv_aload_n hx hb dMd_perform_0 rfl (lv_at hl 0 rfl) ?_
  refine lv_iload_n hx hb dMd_perform_1 rfl (lv_at hl 1 rfl) ?_
  refine cm_pProg (x := pn) hx hb hts hown hK hd hP hS lMd_65 dMd_perform_2 (fun H locs hP hS => ?_)
  refine lv_aload_n hx hb dMd_perform_5 rfl (lv_at hl 0 rfl) ?_
  refine lv_aload_n hx hb dMd_perform_6 rfl (lv_at hl 0 rfl) ?_
  refine lv_aload_n hx hb dMd_perform_7 rfl (lv_at hl 0 rfl) ?_
  refine lv_aload_n hx hb dMd_perform_8 rfl (lv_at hl 0 rfl) ?_
  refine lv_aload_n hx hb dMd_perform_9 rfl (lv_at hl 0 rfl) ?_
  refine lv_aload_n hx hb dMd_perform_10 rfl (lv_at hl 0 rfl) ?_
  refine lv_iconst (v := 0) hx hb dMd_perform_11 (by decide) ?_
  refine lv_dup_x1 hx hb dMd_perform_12 rfl rfl ?_
  refine cm_pCat (x := 0) hx hb hts hown hK hd hP hS lMd_88 dMd_perform_13 (fun H locs hP hS => ?_)
  refine lv_dup_x1 hx hb dMd_perform_16 rfl rfl ?_
  refine cm_pFin (x := 0) hx hb hts hown hK hd hP hS lMd_75 dMd_perform_17 (fun H locs hP hS => ?_)
  refine lv_dup_x1 hx hb dMd_perform_20 rfl rfl ?_
  refine cm_pSteps (x := 0) hx hb hts hown hK hd hP hS lMd_112 dMd_perform_21 (fun H locs hP hS => ?_)
  refine lv_dup_x1 hx hb dMd_perform_24 rfl rfl ?_
  refine cm_pAcc (x := 0) hx hb hts hown hK hd hP hS lMd_78 dMd_perform_25 (fun H locs hP hS => ?_)
  refine lv_dup_x1 hx hb dMd_perform_28 rfl rfl ?_
  refine cm_pOpen (x := 0) hx hb hts hown hK hd hP hS lMd_68 dMd_perform_29 (fun H locs hP hS => ?_)
  refine cm_pAt (x := 0) hx hb hts hown hK hd hP hS lMd_59 dMd_perform_32 (fun H locs hP hS => ?_)
  refine lv_aload_n hx hb dMd_perform_35 rfl (lv_at hl 0 rfl) ?_
  refine lv_iconst (v := (-1)) hx hb dMd_perform_36 (by decide) ?_
  refine cm_pTr (x := (-1)) hx hb hts hown hK hd hP hS lMd_52 dMd_perform_37 (fun H locs hP hS => ?_)
  refine lv_aload_n hx hb dMd_perform_40 rfl (lv_at hl 0 rfl) ?_
  refine lv_aload_n hx hb dMd_perform_41 rfl (lv_at hl 0 rfl) ?_
  refine lv_iconst (v := (-1)) hx hb dMd_perform_42 (by decide) ?_
  refine lv_dup_x1 hx hb dMd_perform_43 rfl rfl ?_
  refine cm_pOrg (x := (-1)) hx hb hts hown hK hd hP hS lMd_62 dMd_perform_44 (fun H locs hP hS => ?_)
  refine cm_pNum (x := (-1)) hx hb hts hown hK hd hP hS lMd_56 dMd_perform_47 (fun H locs hP hS => ?_)
  refine lv_aload_n hx hb dMd_perform_50 rfl (lv_at hl 0 rfl) ?_
  refine lv_aload_n hx hb dMd_perform_51 rfl (lv_at hl 0 rfl) ?_
  refine lv_iconst (v := 0) hx hb dMd_perform_52 (by decide) ?_
  refine lv_dup_x1 hx hb dMd_perform_53 rfl rfl ?_
  refine cm_pStop (x := false) hx hb hts hown hK hd hP hS lMd_81 dMd_perform_54 (fun H locs hP hS => ?_)
  refine cm_pMark (x := false) hx hb hts hown hK hd hP hS lMd_95 dMd_perform_57 (fun H locs hP hS => ?_)
  refine lv_iconst (v := 0) hx hb dMd_perform_60 (by decide) ?_
  refine lv_istore_n (lv' := [(3, .int 0), (0, .ref (a 0)), (1, .int (nI pn)), (2, .int (bI th))]) hx hb dMd_perform_61 rfl hl (by decide) rfl (fun ls hl => ?_)
  generalize hU : zMark (zStop (zNum (zOrg (zTr (zAt (zOpen (zAcc (zSteps (zFin (zCat (zProg m pn) 0) 0) 0) 0) 0) 0) (-1)) (-1)) (-1)) false) false = g0 at hP
  have loop0 : ∀ (n j : Nat) (f : Nat → Int32) (H : Heap) (locs : List Loc) (ls : Array Slot), j + n = 8 → (∀ q, q < j → f q = 0) → va_P D vwCl (wM a cI cZ (zCell g0 f)) H → va_S (aM a) s.heap H locs → lv_has ls 6 [(0, .ref (a 0)), (1, .int (nI pn)), (2, .int (bI th)), (3, .int (nI j))] → W p l e (headSpec (ce_ws yMd_perform cMd_perform 6 (some .int)) (ce_rm 4)).room s mi (([.ref (a 0), .int (nI pn), .int (bI th)] : List Value).toArray) below meth c H locs 0 0 (MQ below (va_Qi (fun r m2 => (r, m2) = mPerf th pn m) (fun m2 t => va_P D vwCl (wM a cI cZ m2) t.heap) (aM a)) (([.ref (a 0), .int (nI pn), .int (bI th)] : List Value).toArray) s 0 0 (aM a)) (F0 mi 62 ls []) := by
    intro n
    induction n with
    | zero =>
      intro j f H locs ls hj hf hP hS hl
      refine lv_iload_n hx hb dMd_perform_62 rfl (lv_at hl 3 rfl) ?_
      refine lv_bipush (v := 8) hx hb dMd_perform_63 (by decide) ?_
      refine lv_icmp_ge (tgt := 81) hx hb dMd_perform_65 (by decide) (fun c_196 => ?_) (fun c_196 => ?_)
      · -- 65 taken
        refine lv_aload_n hx hb dMd_perform_81 rfl (lv_at hl 0 rfl) ?_
        refine cm_g hx hb hts hown hK hP 15 (by decide) rfl lMd_41 rfl dMd_perform_82 ?_
        refine lv_iconst (v := 0) hx hb dMd_perform_85 (by decide) ?_
        refine lv_aload_n hx hb dMd_perform_86 rfl (lv_at hl 0 rfl) ?_
        refine cm_g hx hb hts hown hK hP 15 (by decide) rfl lMd_41 rfl dMd_perform_87 ?_
        refine lv_iconst (v := 1) hx hb dMd_perform_90 (by decide) ?_
        refine lv_iconst (v := 0) hx hb dMd_perform_91 (by decide) ?_
        refine lv_dup_x2 hx hb dMd_perform_92 rfl rfl rfl ?_
        refine cm_sHeld (i := 1) (x := 0) (by omega) hx hb hK hd hP hS dMd_perform_93 (fun H locs hP hS => ?_)
        rw [qHeld_zCell] at hP
        refine cm_sHeld (i := 0) (x := 0) (by omega) hx hb hK hd hP hS dMd_perform_94 (fun H locs hP hS => ?_)
        rw [qHeld_zHeld] at hP
        rw [zHeld_zHeld] at hP
        refine lv_iconst (v := 0) hx hb dMd_perform_95 (by decide) ?_
        refine lv_istore_n (lv' := [(3, .int 0), (0, .ref (a 0)), (1, .int (nI pn)), (2, .int (bI th))]) hx hb dMd_perform_96 rfl hl (by decide) rfl (fun ls hl => ?_)
        have hP := cm_likeCH (f2 := fun _ => 0) (x2 := fun _ => 0) (fun q h => hf q (by omega)) (fun q h => held0 h) hP
        exact loop 100000 0 _ _ _ _ rfl (by rw [← hU]; exact mOk_begin hp6 hs14 hrng) (by rw [← hU]; rfl) (by rw [← hU]; rfl) hP hS (lv_sub hl [1, 2, 3, 0] rfl)
      · -- 65 not taken
        exact absurd (nI_le (a := 8) (b := j) (by omega) (by omega)) c_196
    | succ n ihn =>
      intro j f H locs ls hj hf hP hS hl
      refine lv_iload_n hx hb dMd_perform_62 rfl (lv_at hl 3 rfl) ?_
      refine lv_bipush (v := 8) hx hb dMd_perform_63 (by decide) ?_
      refine lv_icmp_ge (tgt := 81) hx hb dMd_perform_65 (by decide) (fun c_197 => ?_) (fun c_197 => ?_)
      · -- 65 taken
        exact absurd c_197 (nI_ge (a := j) (b := 8) (by omega) (by omega))
      · -- 65 not taken
        refine lv_aload_n hx hb dMd_perform_68 rfl (lv_at hl 0 rfl) ?_
        refine cm_g hx hb hts hown hK hP 14 (by decide) rfl lMd_38 rfl dMd_perform_69 ?_
        refine lv_iload_n hx hb dMd_perform_72 rfl (lv_at hl 3 rfl) ?_
        refine lv_iconst (v := 0) hx hb dMd_perform_73 (by decide) ?_
        refine cm_sCell (i := j) (x := 0) (by omega) hx hb hK hd hP hS dMd_perform_74 (fun H locs hP hS => ?_)
        rw [qCell_zCell] at hP
        rw [zCell_zCell] at hP
        refine lv_iinc (v := nI (j + 1)) (lv' := [(3, .int (nI (j + 1))), (0, .ref (a 0)), (1, .int (nI pn)), (2, .int (bI th))]) hx hb dMd_perform_75 hl (k := 3) rfl (nI_1 j) (by decide) rfl (fun ls hl => ?_)
        refine lv_goto (tgt := 62) hx hb dMd_perform_78 (by decide) ?_
        exact ihn (j + 1) (upd f j 0) _ _ _ (by omega) (zero_upd hf) hP hS (lv_sub hl [1, 2, 3, 0] rfl)
  exact loop0 8 0 (qCell g0) _ _ _ rfl (fun q h => absurd h (Nat.not_lt_zero q)) (by rw [zCell_self]; exact hP) hS (lv_sub hl [1, 2, 3, 0] rfl)

set_option maxHeartbeats 4000000 in
set_option maxRecDepth 100000 in
theorem zL_isStepSo {l : Launch} {D : va_G} {cI cZ cL : ClassId} {q x : Nat} {r : Nat → Nat} {t : Int} (ht : 0 ≤ t ∧ t ≤ 1000) : gMN l yL_isStepSo wsL_isStepSo (rK 10 0) 0 D (gTyL cI cZ cL) (gO cL x (fun _ => 0) :: zX cI cZ q r t) [.ref q, .ref x] 1 (gO cL x (fun _ => 0) :: zX cI cZ q r (t + 1)) := by
  refine g_ofN (ty := .boolean) (by decide +kernel) rfl rfl (Nat.le_of_ble_eq_true rfl) (g_cat1 rfl) (g_narZ (Or.inr rfl)) ?_
  intro p e s m args below meth c Q A0 E C hret
  have hts := E.1.2.2.2.2
  show gJ p l e (rK 10 0) s m args below meth c 0 0 Q A0 D (gO cL x (fun _ => 0) :: zX cI cZ q r t) [some (.ref q), some (.ref x), none, none, none, none, none, none, none, none, none, none] 0 []
  refine g_aload_n E dL_isStepSo_0 rfl rfl ?_
  refine g_callIW E [0, 1] rfl (wr := [gO cL x (fun _ => 0)]) zX_inside (cwV 0 hts gL_isStepSo_X0_inside rfl rfl rfl hdL_X0_inside ⟨(Nat.le_of_ble_eq_true rfl), (Nat.le_of_ble_eq_true rfl)⟩) rfl rfl rfl (Nat.le_of_ble_eq_true rfl) rfl rfl dL_isStepSo_1 (by decide) ?_
  refine g_aload_n E dL_isStepSo_4 rfl rfl ?_
  refine g_iconst E dL_isStepSo_5 ?_
  refine g_callIW E [0, 1] rfl (wr := [gO cL x (fun _ => 0)]) zX_people (cwV 1 hts gL_isStepSo_X0_people rfl rfl rfl hdL_X0_people ⟨(Nat.le_of_ble_eq_true rfl), (Nat.le_of_ble_eq_true rfl)⟩) rfl rfl rfl (Nat.le_of_ble_eq_true rfl) rfl rfl dL_isStepSo_6 (by decide) ?_
  refine g_iadd E dL_isStepSo_9 ?_
  refine g_istore_n E (lv' := [_, _, _, _, _, _, _, _, _, _, _, _]) dL_isStepSo_10 rfl (Nat.le_of_ble_eq_true rfl) rfl ?_
  refine g_iconst E dL_isStepSo_11 ?_
  refine g_istore_n E (lv' := [_, _, _, _, _, _, _, _, _, _, _, _]) dL_isStepSo_12 rfl (Nat.le_of_ble_eq_true rfl) rfl ?_
  refine g_iconst E dL_isStepSo_13 ?_
  refine g_istore E (lv' := [_, _, _, _, _, _, _, _, _, _, _, _]) dL_isStepSo_14 (Nat.le_of_ble_eq_true rfl) rfl ?_
  refine g_iload E dL_isStepSo_16 rfl ?_
  refine g_aload_n E dL_isStepSo_18 rfl rfl ?_
  refine g_callIW E [0, 1] rfl (wr := [gO cL x (fun _ => 0)]) zX_places (cwV 0 hts gL_isStepSo_X0_places rfl rfl rfl hdL_X0_places ⟨(Nat.le_of_ble_eq_true rfl), (Nat.le_of_ble_eq_true rfl)⟩) rfl rfl rfl (Nat.le_of_ble_eq_true rfl) rfl rfl dL_isStepSo_19 (by decide) ?_
  refine g_icmp_ge_f E dL_isStepSo_22 (tgt := 65) (by decide) (by omega) (by omega) ?_
  refine g_aload_n E dL_isStepSo_25 rfl rfl ?_
  refine g_iload E dL_isStepSo_26 rfl ?_
  refine g_aload_n E dL_isStepSo_28 rfl rfl ?_
  refine g_iload E dL_isStepSo_29 rfl ?_
  refine g_callIW E [0, 1] rfl (wr := [gO cL x (fun _ => 0)]) zX_people (cwV 1 hts gL_isStepSo_X0_people rfl rfl rfl hdL_X0_people ⟨(Nat.le_of_ble_eq_true rfl), (Nat.le_of_ble_eq_true rfl)⟩) rfl rfl rfl (Nat.le_of_ble_eq_true rfl) rfl rfl dL_isStepSo_31 (by decide) ?_
  refine g_i2l E dL_isStepSo_34 ?_
  refine g_last0 E (by omega) dL_isStepSo_35 ?_
  refine g_aload_n E dL_isStepSo_36 rfl rfl ?_
  refine g_bipush E dL_isStepSo_37 (by decide) ?_
  refine g_iload E dL_isStepSo_39 rfl ?_
  refine g_iadd E dL_isStepSo_41 ?_
  refine g_aload_n E dL_isStepSo_42 rfl rfl ?_
  refine g_iload E dL_isStepSo_43 rfl ?_
  refine g_callIW E [0, 1] rfl (wr := [gO cL x (fun _ => 0)]) zX_wouldMove (cwV 1 hts gL_isStepSo_X0_wouldMove rfl rfl rfl hdL_X0_wouldMove ⟨(Nat.le_of_ble_eq_true rfl), (Nat.le_of_ble_eq_true rfl)⟩) rfl rfl rfl (Nat.le_of_ble_eq_true rfl) rfl rfl dL_isStepSo_45 (by decide) ?_
  refine g_i2l E dL_isStepSo_48 ?_
  refine g_last0 E (by omega) dL_isStepSo_49 ?_
  refine g_iload_n E dL_isStepSo_50 rfl rfl ?_
  refine g_aload_n E dL_isStepSo_51 rfl rfl ?_
  refine g_iload E dL_isStepSo_52 rfl ?_
  refine g_callIW E [0, 1] rfl (wr := [gO cL x (fun _ => 0)]) zX_wouldMove (cwV 1 hts gL_isStepSo_X0_wouldMove rfl rfl rfl hdL_X0_wouldMove ⟨(Nat.le_of_ble_eq_true rfl), (Nat.le_of_ble_eq_true rfl)⟩) rfl rfl rfl (Nat.le_of_ble_eq_true rfl) rfl rfl dL_isStepSo_54 (by decide) ?_
  refine g_iadd E dL_isStepSo_57 ?_
  refine g_istore_n E (lv' := [_, _, _, _, _, _, _, _, _, _, _, _]) dL_isStepSo_58 rfl (Nat.le_of_ble_eq_true rfl) rfl ?_
  refine g_iinc E (lv' := [_, _, _, _, _, _, _, _, _, _, _, _]) dL_isStepSo_59 rfl rfl ?_
  refine g_goto E dL_isStepSo_62 (tgt := 16) (by decide) ?_
  refine g_iload E dL_isStepSo_16 rfl ?_
  refine g_aload_n E dL_isStepSo_18 rfl rfl ?_
  refine g_callIW E [0, 1] rfl (wr := [gO cL x (fun _ => 0)]) zX_places (cwV 0 hts gL_isStepSo_X0_places rfl rfl rfl hdL_X0_places ⟨(Nat.le_of_ble_eq_true rfl), (Nat.le_of_ble_eq_true rfl)⟩) rfl rfl rfl (Nat.le_of_ble_eq_true rfl) rfl rfl dL_isStepSo_19 (by decide) ?_
  refine g_icmp_ge_t E dL_isStepSo_22 (tgt := 65) (by decide) (by omega) (by omega) ?_
  refine g_iconst E dL_isStepSo_65 ?_
  refine g_istore E (lv' := [_, _, _, _, _, _, _, _, _, _, _, _]) dL_isStepSo_66 (Nat.le_of_ble_eq_true rfl) rfl ?_
  refine g_iload E dL_isStepSo_68 rfl ?_
  refine g_aload_n E dL_isStepSo_70 rfl rfl ?_
  refine g_callIW E [0, 1] rfl (wr := [gO cL x (fun _ => 0)]) zX_doors (cwV 0 hts gL_isStepSo_X0_doors rfl rfl rfl hdL_X0_doors ⟨(Nat.le_of_ble_eq_true rfl), (Nat.le_of_ble_eq_true rfl)⟩) rfl rfl rfl (Nat.le_of_ble_eq_true rfl) rfl rfl dL_isStepSo_71 (by decide) ?_
  refine g_icmp_ge_t E dL_isStepSo_74 (tgt := 97) (by decide) (by omega) (by omega) ?_
  refine g_iconst E dL_isStepSo_97 ?_
  refine g_istore E (lv' := [_, _, _, _, _, _, _, _, _, _, _, _]) dL_isStepSo_98 (Nat.le_of_ble_eq_true rfl) rfl ?_
  refine g_iload E dL_isStepSo_100 rfl ?_
  refine g_aload_n E dL_isStepSo_102 rfl rfl ?_
  refine g_callIW E [0, 1] rfl (wr := [gO cL x (fun _ => 0)]) zX_places (cwV 0 hts gL_isStepSo_X0_places rfl rfl rfl hdL_X0_places ⟨(Nat.le_of_ble_eq_true rfl), (Nat.le_of_ble_eq_true rfl)⟩) rfl rfl rfl (Nat.le_of_ble_eq_true rfl) rfl rfl dL_isStepSo_103 (by decide) ?_
  refine g_icmp_ge_t E dL_isStepSo_106 (tgt := 162) (by decide) (by omega) (by omega) ?_
  refine g_aload_n E dL_isStepSo_162 rfl rfl ?_
  refine g_callIW E [0, 1] rfl (wr := [gO cL x (fun _ => 0)]) zX_waited (cwV 0 hts gL_isStepSo_X0_waited rfl rfl rfl hdL_X0_waited ⟨(Nat.le_of_ble_eq_true rfl), (Nat.le_of_ble_eq_true rfl)⟩) rfl rfl rfl (Nat.le_of_ble_eq_true rfl) rfl rfl dL_isStepSo_163 (by decide) ?_
  refine g_istore E (lv' := [_, _, _, _, _, _, _, _, _, _, _, _]) dL_isStepSo_166 (Nat.le_of_ble_eq_true rfl) rfl ?_
  refine g_aload_n E dL_isStepSo_168 rfl rfl ?_
  refine g_callIW E [0, 1] rfl (wr := [gO cL x (fun _ => 0)]) zX_now (cwV 0 hts gL_isStepSo_X0_now rfl rfl rfl hdL_X0_now ⟨(Nat.le_of_ble_eq_true rfl), (Nat.le_of_ble_eq_true rfl)⟩) rfl rfl rfl (Nat.le_of_ble_eq_true rfl) rfl rfl dL_isStepSo_169 (by decide) ?_
  refine g_istore E (lv' := [_, _, _, _, _, _, _, _, _, _, _, _]) dL_isStepSo_172 (Nat.le_of_ble_eq_true rfl) rfl ?_
  refine g_aload_n E dL_isStepSo_174 rfl rfl ?_
  refine g_iconst E dL_isStepSo_175 ?_
  refine g_callIW E [0, 1] rfl (wr := [gO cL x (fun _ => 0)]) (zX_step ht) (cwV 1 hts gL_isStepSo_X0_step rfl rfl rfl hdL_X0_step ⟨(Nat.le_of_ble_eq_true rfl), (Nat.le_of_ble_eq_true rfl)⟩) rfl rfl rfl (Nat.le_of_ble_eq_true rfl) rfl rfl dL_isStepSo_176 (by decide) ?_
  refine g_istore E (lv' := [_, _, _, _, _, _, _, _, _, _, _, _]) dL_isStepSo_179 (Nat.le_of_ble_eq_true rfl) rfl ?_
  refine g_iconst E dL_isStepSo_181 ?_
  refine g_istore E (lv' := [_, _, _, _, _, _, _, _, _, _, _, _]) dL_isStepSo_182 (Nat.le_of_ble_eq_true rfl) rfl ?_
  refine g_aload_n E dL_isStepSo_184 rfl rfl ?_
  refine g_callIW E [0, 1] rfl (wr := [gO cL x (fun _ => 0)]) zX_inside (cwV 0 hts gL_isStepSo_X0_inside rfl rfl rfl hdL_X0_inside ⟨(Nat.le_of_ble_eq_true rfl), (Nat.le_of_ble_eq_true rfl)⟩) rfl rfl rfl (Nat.le_of_ble_eq_true rfl) rfl rfl dL_isStepSo_185 (by decide) ?_
  refine g_aload_n E dL_isStepSo_188 rfl rfl ?_
  refine g_iconst E dL_isStepSo_189 ?_
  refine g_callIW E [0, 1] rfl (wr := [gO cL x (fun _ => 0)]) zX_people (cwV 1 hts gL_isStepSo_X0_people rfl rfl rfl hdL_X0_people ⟨(Nat.le_of_ble_eq_true rfl), (Nat.le_of_ble_eq_true rfl)⟩) rfl rfl rfl (Nat.le_of_ble_eq_true rfl) rfl rfl dL_isStepSo_190 (by decide) ?_
  refine g_iadd E dL_isStepSo_193 ?_
  refine g_iload_n E dL_isStepSo_194 rfl rfl ?_
  refine g_icmp_ne_f E dL_isStepSo_195 (tgt := 260) (by decide) (by omega) (by omega) ?_
  refine g_aload_n E dL_isStepSo_198 rfl rfl ?_
  refine g_callIW E [0, 1] rfl (wr := [gO cL x (fun _ => 0)]) zX_now (cwV 0 hts gL_isStepSo_X0_now rfl rfl rfl hdL_X0_now ⟨(Nat.le_of_ble_eq_true rfl), (Nat.le_of_ble_eq_true rfl)⟩) rfl rfl rfl (Nat.le_of_ble_eq_true rfl) rfl rfl dL_isStepSo_199 (by decide) ?_
  refine g_iload E dL_isStepSo_202 rfl ?_
  refine g_iconst E dL_isStepSo_204 ?_
  refine g_iadd E dL_isStepSo_205 ?_
  refine g_icmp_ne_f E dL_isStepSo_206 (tgt := 260) (by decide) (by omega) (by omega) ?_
  refine g_aload_n E dL_isStepSo_209 rfl rfl ?_
  refine g_callIW E [0, 1] rfl (wr := [gO cL x (fun _ => 0)]) zX_waited (cwV 0 hts gL_isStepSo_X0_waited rfl rfl rfl hdL_X0_waited ⟨(Nat.le_of_ble_eq_true rfl), (Nat.le_of_ble_eq_true rfl)⟩) rfl rfl rfl (Nat.le_of_ble_eq_true rfl) rfl rfl dL_isStepSo_210 (by decide) ?_
  refine g_iload E dL_isStepSo_213 rfl ?_
  refine g_aload_n E dL_isStepSo_215 rfl rfl ?_
  refine g_callIW E [0, 1] rfl (wr := [gO cL x (fun _ => 0)]) zX_inside (cwV 0 hts gL_isStepSo_X0_inside rfl rfl rfl hdL_X0_inside ⟨(Nat.le_of_ble_eq_true rfl), (Nat.le_of_ble_eq_true rfl)⟩) rfl rfl rfl (Nat.le_of_ble_eq_true rfl) rfl rfl dL_isStepSo_216 (by decide) ?_
  refine g_iadd E dL_isStepSo_219 ?_
  refine g_icmp_ne_f E dL_isStepSo_220 (tgt := 260) (by decide) (by omega) (by omega) ?_
  refine g_iload E dL_isStepSo_223 rfl ?_
  refine g_i2l E dL_isStepSo_225 ?_
  refine g_aload_n E dL_isStepSo_226 rfl rfl ?_
  refine g_iconst E dL_isStepSo_227 ?_
  refine g_callIW E [0, 1] rfl (wr := [gO cL x (fun _ => 0)]) zX_people (cwV 1 hts gL_isStepSo_X0_people rfl rfl rfl hdL_X0_people ⟨(Nat.le_of_ble_eq_true rfl), (Nat.le_of_ble_eq_true rfl)⟩) rfl rfl rfl (Nat.le_of_ble_eq_true rfl) rfl rfl dL_isStepSo_228 (by decide) ?_
  refine g_i2l E dL_isStepSo_231 ?_
  refine g_aload_n E dL_isStepSo_232 rfl rfl ?_
  refine g_iconst E dL_isStepSo_233 ?_
  refine g_lald0 E (by omega) dL_isStepSo_234 ?_
  refine g_lsub0 E dL_isStepSo_235 ?_
  refine g_lcmp0 E rfl dL_isStepSo_236 ?_
  refine g_if_ne_f E dL_isStepSo_237 (tgt := 260) (by decide) (by omega) (by omega) ?_
  refine g_iload E dL_isStepSo_240 rfl ?_
  refine g_if_eq_t E dL_isStepSo_242 (tgt := 256) (by decide) (by omega) (by omega) ?_
  refine g_iconst E dL_isStepSo_256 ?_
  refine g_goto E dL_isStepSo_257 (tgt := 261) (by decide) ?_
  refine g_istore E (lv' := [_, _, _, _, _, _, _, _, _, _, _, _]) dL_isStepSo_261 (Nat.le_of_ble_eq_true rfl) rfl ?_
  refine g_iconst E dL_isStepSo_263 ?_
  refine g_istore E (lv' := [_, _, _, _, _, _, _, _, _, _, _, _]) dL_isStepSo_264 (Nat.le_of_ble_eq_true rfl) rfl ?_
  refine g_iload E dL_isStepSo_266 rfl ?_
  refine g_aload_n E dL_isStepSo_268 rfl rfl ?_
  refine g_callIW E [0, 1] rfl (wr := [gO cL x (fun _ => 0)]) zX_places (cwV 0 hts gL_isStepSo_X0_places rfl rfl rfl hdL_X0_places ⟨(Nat.le_of_ble_eq_true rfl), (Nat.le_of_ble_eq_true rfl)⟩) rfl rfl rfl (Nat.le_of_ble_eq_true rfl) rfl rfl dL_isStepSo_269 (by decide) ?_
  refine g_icmp_ge_t E dL_isStepSo_272 (tgt := 336) (by decide) (by omega) (by omega) ?_
  refine g_iconst E dL_isStepSo_336 ?_
  refine g_istore E (lv' := [_, _, _, _, _, _, _, _, _, _, _, _]) dL_isStepSo_337 (Nat.le_of_ble_eq_true rfl) rfl ?_
  refine g_iload E dL_isStepSo_339 rfl ?_
  refine g_aload_n E dL_isStepSo_341 rfl rfl ?_
  refine g_callIW E [0, 1] rfl (wr := [gO cL x (fun _ => 0)]) zX_doors (cwV 0 hts gL_isStepSo_X0_doors rfl rfl rfl hdL_X0_doors ⟨(Nat.le_of_ble_eq_true rfl), (Nat.le_of_ble_eq_true rfl)⟩) rfl rfl rfl (Nat.le_of_ble_eq_true rfl) rfl rfl dL_isStepSo_342 (by decide) ?_
  refine g_icmp_ge_t E dL_isStepSo_345 (tgt := 384) (by decide) (by omega) (by omega) ?_
  refine g_iload E dL_isStepSo_384 rfl ?_
  refine g_if_eq_f E dL_isStepSo_386 (tgt := 402) (by decide) (by omega) (by omega) ?_
  refine g_iload E dL_isStepSo_389 rfl ?_
  refine g_iload E dL_isStepSo_391 rfl ?_
  refine g_iadd E dL_isStepSo_393 ?_
  refine g_iload_n E dL_isStepSo_394 rfl rfl ?_
  refine g_icmp_ne_f E dL_isStepSo_395 (tgt := 402) (by decide) (by omega) (by omega) ?_
  refine g_iconst E dL_isStepSo_398 ?_
  refine g_goto E dL_isStepSo_399 (tgt := 403) (by decide) ?_
  exact hret _ _ _ C dL_isStepSo_403

/-! The law: bit, deal, pour. -/
section PL3
theorem bitN_hi {N : Row} {n q : Nat} {k f t l : Int32} (hn : n ≤ 14) (hq : 1556 ≤ q) : bitN N n k f t l q = N q := by
  unfold bitN
  split
  · exact comesN_ne (by omega) (by omega)
  · rfl
theorem dealN_hi {q : Nat} (hq : 1556 ≤ q) : ∀ (m : Nat) (N : Row) (n : Nat), n + m ≤ 20 → dealN N n m q = N q
  | 0, _, _, _ => rfl
  | m + 1, N, n, h => by
    unfold dealN
    rw [dealN_hi hq m _ (n + 1) (by omega)]
    unfold dealS
    rw [comesN_ne (by omega) (by omega), va_up_ne _ _ (by omega)]
theorem dealM_le {n : Nat} {v : Int32} (hn : n ≤ 14) : n + dealM n v ≤ 20 := by
  unfold dealM
  split <;> omega
theorem pourN_hi {N So Si Pl : Row} {n q : Nat} {s : Int32} (hn : n ≤ 14) (hq : 1556 ≤ q) : pourN N n So Si Pl s q = N q := by
  unfold pourN
  split
  · exact prN_ne _ (fun j hj => by unfold pourM at hj; omega)
  · rfl
end PL3
section L3
variable {g G : Geo} {I : IM} {K : Option Value → Geo → IM → Prop} {c i : Nat}
theorem cs_bit (hI : Inv c G g I) (hi : i + 6 ≤ G.1.2.1) (hl : G.1.2.1 ≤ 384) (kk : ∀ g' J, Inv (c + 1) G g' J → Rl 153 M_L_law 1495 (LL i) [] g' J K) : Rl 153 M_L_law 212 (LL i) [] g I K := by
  obtain ⟨N, M, So, Si, Pl, Th, He, Wt, T, n, tn, n2, tn2, w, z, kept, hH, hC, hM, hO⟩ := hI
  have G0 := hH.1
  have hg := hH.2.1
  obtain ⟨ok, okw, okk, oks, okh, okt, hw60, h1556⟩ := id hO
  have n14 : n ≤ 14 := ok.2.1
  have m14 : kept = true → n2 ≤ 14 := fun k => (okk k).1.2.1
  have a0 : isAg g 0 9 11 := ga G0 (by decide) rfl
  have a1 : isAg g 101 10 31 := ga G0 (by decide) rfl
  obtain ⟨c1, c2, c3, c4, c5, c6, c7⟩ := id hC
  unfold LL
  repeat' (first
    | ((first | refine T_aload_n (pc1 := 213) (pc := 212) k_L_law_212 rfl rfl ?_ | refine T_aload_nN (pc1 := 213) (pc := 212) k_L_law_212 rfl rfl ?_) <;> try ((first | refine T_aload_n (pc1 := 214) (pc := 213) k_L_law_213 rfl rfl ?_ | refine T_aload_nN (pc1 := 214) (pc := 213) k_L_law_213 rfl rfl ?_) <;> try (refine T_iload_n (pc1 := 215) (pc := 214) k_L_law_214 rfl rfl ?_ <;> try (refine T_iconst (v := (nI 1)) (pc1 := 216) (pc := 215) k_L_law_215 rfl (by decide) ?_ <;> try ((first | with_reducible refine T_iaddN (pc1 := 217) (pc := 216) k_L_law_216 (by decide) ?_ | refine T_iadd (pc1 := 217) (pc := 216) k_L_law_216 rfl ?_) <;> try (refine T_scN (pc1 := 218) (pc := 217) k_L_law_217 rfl (by assumption) (by omega) (by omega) ?_ <;> try ((first | refine T_aload_n (pc1 := 219) (pc := 218) k_L_law_218 rfl rfl ?_ | refine T_aload_nN (pc1 := 219) (pc := 218) k_L_law_218 rfl rfl ?_) <;> try (refine T_iload_n (pc1 := 220) (pc := 219) k_L_law_219 rfl rfl ?_ <;> try (refine T_iconst (v := (nI 2)) (pc1 := 221) (pc := 220) k_L_law_220 rfl (by decide) ?_ <;> try ((first | with_reducible refine T_iaddN (pc1 := 222) (pc := 221) k_L_law_221 (by decide) ?_ | refine T_iadd (pc1 := 222) (pc := 221) k_L_law_221 rfl ?_) <;> try (refine T_scN (pc1 := 223) (pc := 222) k_L_law_222 rfl (by assumption) (by omega) (by omega) ?_ <;> try ((first | refine T_aload_n (pc1 := 224) (pc := 223) k_L_law_223 rfl rfl ?_ | refine T_aload_nN (pc1 := 224) (pc := 223) k_L_law_223 rfl rfl ?_) <;> try (refine T_iload_n (pc1 := 225) (pc := 224) k_L_law_224 rfl rfl ?_ <;> try (refine T_iconst (v := (nI 3)) (pc1 := 226) (pc := 225) k_L_law_225 rfl (by decide) ?_))))))))))))))
    | ((first | with_reducible refine T_iaddN (pc1 := 227) (pc := 226) k_L_law_226 (by decide) ?_ | refine T_iadd (pc1 := 227) (pc := 226) k_L_law_226 rfl ?_) <;> try (refine T_scN (pc1 := 228) (pc := 227) k_L_law_227 rfl (by assumption) (by omega) (by omega) ?_ <;> try ((first | refine T_aload_n (pc1 := 229) (pc := 228) k_L_law_228 rfl rfl ?_ | refine T_aload_nN (pc1 := 229) (pc := 228) k_L_law_228 rfl rfl ?_) <;> try (refine T_iload_n (pc1 := 230) (pc := 229) k_L_law_229 rfl rfl ?_ <;> try (refine T_iconst (v := (nI 4)) (pc1 := 231) (pc := 230) k_L_law_230 rfl (by decide) ?_ <;> try ((first | with_reducible refine T_iaddN (pc1 := 232) (pc := 231) k_L_law_231 (by decide) ?_ | refine T_iadd (pc1 := 232) (pc := 231) k_L_law_231 rfl ?_) <;> try (refine T_scN (pc1 := 233) (pc := 232) k_L_law_232 rfl (by assumption) (by omega) (by omega) ?_)))))))
    | refine T_aload_n (pc1 := 214) (pc := 213) k_L_law_213 rfl rfl ?_
    | refine T_aload_nN (pc1 := 214) (pc := 213) k_L_law_213 rfl rfl ?_
    | refine T_iload_n (pc1 := 215) (pc := 214) k_L_law_214 rfl rfl ?_
    | refine T_iconst (v := (nI 1)) (pc1 := 216) (pc := 215) k_L_law_215 rfl (by decide) ?_
    | with_reducible refine T_iaddN (pc1 := 217) (pc := 216) k_L_law_216 (by decide) ?_
    | refine T_iadd (pc1 := 217) (pc := 216) k_L_law_216 rfl ?_
    | refine T_scN (pc1 := 218) (pc := 217) k_L_law_217 rfl (by assumption) (by omega) (by omega) ?_
    | refine T_aload_n (pc1 := 219) (pc := 218) k_L_law_218 rfl rfl ?_
    | refine T_aload_nN (pc1 := 219) (pc := 218) k_L_law_218 rfl rfl ?_
    | refine T_iload_n (pc1 := 220) (pc := 219) k_L_law_219 rfl rfl ?_
    | refine T_iconst (v := (nI 2)) (pc1 := 221) (pc := 220) k_L_law_220 rfl (by decide) ?_
    | with_reducible refine T_iaddN (pc1 := 222) (pc := 221) k_L_law_221 (by decide) ?_
    | refine T_iadd (pc1 := 222) (pc := 221) k_L_law_221 rfl ?_
    | refine T_scN (pc1 := 223) (pc := 222) k_L_law_222 rfl (by assumption) (by omega) (by omega) ?_
    | refine T_aload_n (pc1 := 224) (pc := 223) k_L_law_223 rfl rfl ?_
    | refine T_aload_nN (pc1 := 224) (pc := 223) k_L_law_223 rfl rfl ?_
    | refine T_iload_n (pc1 := 225) (pc := 224) k_L_law_224 rfl rfl ?_
    | refine T_iconst (v := (nI 3)) (pc1 := 226) (pc := 225) k_L_law_225 rfl (by decide) ?_
    | refine T_scN (pc1 := 228) (pc := 227) k_L_law_227 rfl (by assumption) (by omega) (by omega) ?_
    | refine T_aload_n (pc1 := 229) (pc := 228) k_L_law_228 rfl rfl ?_
    | refine T_aload_nN (pc1 := 229) (pc := 228) k_L_law_228 rfl rfl ?_
    | refine T_iload_n (pc1 := 230) (pc := 229) k_L_law_229 rfl rfl ?_
    | refine T_iconst (v := (nI 4)) (pc1 := 231) (pc := 230) k_L_law_230 rfl (by decide) ?_
    | with_reducible refine T_iaddN (pc1 := 232) (pc := 231) k_L_law_231 (by decide) ?_
    | refine T_iadd (pc1 := 232) (pc := 231) k_L_law_231 rfl ?_
    | refine T_scN (pc1 := 233) (pc := 232) k_L_law_232 rfl (by assumption) (by omega) (by omega) ?_)
  (refine T_cV (As := [_, _, _, _]) (d1 := 4) (pc1 := 236) (pc := 233) k_L_law_233 rfl (by decide) (Nat.le_of_ble_eq_true rfl) rfl o_S_bit l_L_13 rfl (by assumption) rfl (c_S_bit G0 ok okw c1 fun J1 r1 n' f1 ok1 okw1 L1 e1 => ?_) <;> try dsimp only [psh])
  have C1 := CI_fr (r := 43) hC m14 GS_rf (by omega) (by omega) f1 (fun i hi => Or.inl hi) L1
  have M1 := MI_fr hM f1 (fun i h1 h2 h3 => tf_mod h1 h2 (Or.inl h3))
  obtain ⟨x102, x103, xk, xSo, xSi, xPl, xTh, xHe, xWt, xw, xT, xz⟩ := id M1
  repeat' (first
    | ((first | refine T_aload_n (pc1 := 237) (pc := 236) k_L_law_236 rfl rfl ?_ | refine T_aload_nN (pc1 := 237) (pc := 236) k_L_law_236 rfl rfl ?_) <;> try ((first | refine T_aload_n (pc1 := 238) (pc := 237) k_L_law_237 rfl rfl ?_ | refine T_aload_nN (pc1 := 238) (pc := 237) k_L_law_237 rfl rfl ?_) <;> try (refine T_iload_n (pc1 := 239) (pc := 238) k_L_law_238 rfl rfl ?_ <;> try (refine T_iconst (v := (nI 1)) (pc1 := 240) (pc := 239) k_L_law_239 rfl (by decide) ?_ <;> try ((first | with_reducible refine T_iaddN (pc1 := 241) (pc := 240) k_L_law_240 (by decide) ?_ | refine T_iadd (pc1 := 241) (pc := 240) k_L_law_240 rfl ?_) <;> try (refine T_scN (pc1 := 242) (pc := 241) k_L_law_241 rfl (by assumption) (by omega) (by omega) ?_ <;> try ((first | refine T_aload_n (pc1 := 243) (pc := 242) k_L_law_242 rfl rfl ?_ | refine T_aload_nN (pc1 := 243) (pc := 242) k_L_law_242 rfl rfl ?_) <;> try (refine T_iload_n (pc1 := 244) (pc := 243) k_L_law_243 rfl rfl ?_ <;> try (refine T_iconst (v := (nI 2)) (pc1 := 245) (pc := 244) k_L_law_244 rfl (by decide) ?_ <;> try ((first | with_reducible refine T_iaddN (pc1 := 246) (pc := 245) k_L_law_245 (by decide) ?_ | refine T_iadd (pc1 := 246) (pc := 245) k_L_law_245 rfl ?_) <;> try (refine T_scN (pc1 := 247) (pc := 246) k_L_law_246 rfl (by assumption) (by omega) (by omega) ?_ <;> try ((first | refine T_aload_n (pc1 := 248) (pc := 247) k_L_law_247 rfl rfl ?_ | refine T_aload_nN (pc1 := 248) (pc := 247) k_L_law_247 rfl rfl ?_) <;> try (refine T_iload_n (pc1 := 249) (pc := 248) k_L_law_248 rfl rfl ?_ <;> try (refine T_iconst (v := (nI 3)) (pc1 := 250) (pc := 249) k_L_law_249 rfl (by decide) ?_))))))))))))))
    | ((first | with_reducible refine T_iaddN (pc1 := 251) (pc := 250) k_L_law_250 (by decide) ?_ | refine T_iadd (pc1 := 251) (pc := 250) k_L_law_250 rfl ?_) <;> try (refine T_scN (pc1 := 252) (pc := 251) k_L_law_251 rfl (by assumption) (by omega) (by omega) ?_ <;> try ((first | refine T_aload_n (pc1 := 253) (pc := 252) k_L_law_252 rfl rfl ?_ | refine T_aload_nN (pc1 := 253) (pc := 252) k_L_law_252 rfl rfl ?_) <;> try (refine T_iload_n (pc1 := 254) (pc := 253) k_L_law_253 rfl rfl ?_ <;> try (refine T_iconst (v := (nI 4)) (pc1 := 255) (pc := 254) k_L_law_254 rfl (by decide) ?_ <;> try ((first | with_reducible refine T_iaddN (pc1 := 256) (pc := 255) k_L_law_255 (by decide) ?_ | refine T_iadd (pc1 := 256) (pc := 255) k_L_law_255 rfl ?_) <;> try (refine T_scN (pc1 := 257) (pc := 256) k_L_law_256 rfl (by assumption) (by omega) (by omega) ?_)))))))
    | refine T_aload_n (pc1 := 238) (pc := 237) k_L_law_237 rfl rfl ?_
    | refine T_aload_nN (pc1 := 238) (pc := 237) k_L_law_237 rfl rfl ?_
    | refine T_iload_n (pc1 := 239) (pc := 238) k_L_law_238 rfl rfl ?_
    | refine T_iconst (v := (nI 1)) (pc1 := 240) (pc := 239) k_L_law_239 rfl (by decide) ?_
    | with_reducible refine T_iaddN (pc1 := 241) (pc := 240) k_L_law_240 (by decide) ?_
    | refine T_iadd (pc1 := 241) (pc := 240) k_L_law_240 rfl ?_
    | refine T_scN (pc1 := 242) (pc := 241) k_L_law_241 rfl (by assumption) (by omega) (by omega) ?_
    | refine T_aload_n (pc1 := 243) (pc := 242) k_L_law_242 rfl rfl ?_
    | refine T_aload_nN (pc1 := 243) (pc := 242) k_L_law_242 rfl rfl ?_
    | refine T_iload_n (pc1 := 244) (pc := 243) k_L_law_243 rfl rfl ?_
    | refine T_iconst (v := (nI 2)) (pc1 := 245) (pc := 244) k_L_law_244 rfl (by decide) ?_
    | with_reducible refine T_iaddN (pc1 := 246) (pc := 245) k_L_law_245 (by decide) ?_
    | refine T_iadd (pc1 := 246) (pc := 245) k_L_law_245 rfl ?_
    | refine T_scN (pc1 := 247) (pc := 246) k_L_law_246 rfl (by assumption) (by omega) (by omega) ?_
    | refine T_aload_n (pc1 := 248) (pc := 247) k_L_law_247 rfl rfl ?_
    | refine T_aload_nN (pc1 := 248) (pc := 247) k_L_law_247 rfl rfl ?_
    | refine T_iload_n (pc1 := 249) (pc := 248) k_L_law_248 rfl rfl ?_
    | refine T_iconst (v := (nI 3)) (pc1 := 250) (pc := 249) k_L_law_249 rfl (by decide) ?_
    | refine T_scN (pc1 := 252) (pc := 251) k_L_law_251 rfl (by assumption) (by omega) (by omega) ?_
    | refine T_aload_n (pc1 := 253) (pc := 252) k_L_law_252 rfl rfl ?_
    | refine T_aload_nN (pc1 := 253) (pc := 252) k_L_law_252 rfl rfl ?_
    | refine T_iload_n (pc1 := 254) (pc := 253) k_L_law_253 rfl rfl ?_
    | refine T_iconst (v := (nI 4)) (pc1 := 255) (pc := 254) k_L_law_254 rfl (by decide) ?_
    | with_reducible refine T_iaddN (pc1 := 256) (pc := 255) k_L_law_255 (by decide) ?_
    | refine T_iadd (pc1 := 256) (pc := 255) k_L_law_255 rfl ?_
    | refine T_scN (pc1 := 257) (pc := 256) k_L_law_256 rfl (by assumption) (by omega) (by omega) ?_)
  (refine T_cV (As := [_, _, _, _]) (d1 := 4) (pc1 := 260) (pc := 257) k_L_law_257 rfl (by decide) (Nat.le_of_ble_eq_true rfl) rfl o_M_bit l_L_17 rfl (by assumption) rfl (c_M_bit G0 x102 ok.1 n14 fun J2 r2 f2 q2 e2 => ?_) <;> try dsimp only [psh])
  refine T_icmp_eq_t k_L_law_260 rfl (e1.trans e2.symm) ?_
  exact kk g J2 ⟨_, M, So, Si, Pl, Th, He, Wt, T, n', tn, n2, tn2, w, z, kept, HI_s hH, CI_mo C1 ok1.2.1 m14 (eqx_fre f2 (by decide)), MI_N M1 f2 (by decide) q2, ⟨ok1, okw1, okk, oks, okh, okt, hw60, fun k hk => (bitN_hi n14 hk).trans (h1556 k hk)⟩⟩
theorem cs_deal (hI : Inv c G g I) (hi : i + 6 ≤ G.1.2.1) (hl : G.1.2.1 ≤ 384) (kk : ∀ g' J, Inv (c + 1) G g' J → Rl 153 M_L_law 1495 (LL i) [] g' J K) : Rl 153 M_L_law 440 (LL i) [] g I K := by
  obtain ⟨N, M, So, Si, Pl, Th, He, Wt, T, n, tn, n2, tn2, w, z, kept, hH, hC, hM, hO⟩ := hI
  have G0 := hH.1
  have hg := hH.2.1
  obtain ⟨ok, okw, okk, oks, okh, okt, hw60, h1556⟩ := id hO
  have n14 : n ≤ 14 := ok.2.1
  have m14 : kept = true → n2 ≤ 14 := fun k => (okk k).1.2.1
  have a0 : isAg g 0 9 11 := ga G0 (by decide) rfl
  have a1 : isAg g 101 10 31 := ga G0 (by decide) rfl
  obtain ⟨c1, c2, c3, c4, c5, c6, c7⟩ := id hC
  unfold LL
  repeat' (first
    | ((first | refine T_aload_n (pc1 := 441) (pc := 440) k_L_law_440 rfl rfl ?_ | refine T_aload_nN (pc1 := 441) (pc := 440) k_L_law_440 rfl rfl ?_) <;> try ((first | refine T_aload_n (pc1 := 442) (pc := 441) k_L_law_441 rfl rfl ?_ | refine T_aload_nN (pc1 := 442) (pc := 441) k_L_law_441 rfl rfl ?_) <;> try (refine T_iload_n (pc1 := 443) (pc := 442) k_L_law_442 rfl rfl ?_ <;> try (refine T_iconst (v := (nI 1)) (pc1 := 444) (pc := 443) k_L_law_443 rfl (by decide) ?_ <;> try ((first | with_reducible refine T_iaddN (pc1 := 445) (pc := 444) k_L_law_444 (by decide) ?_ | refine T_iadd (pc1 := 445) (pc := 444) k_L_law_444 rfl ?_) <;> try (refine T_scN (pc1 := 446) (pc := 445) k_L_law_445 rfl (by assumption) (by omega) (by omega) ?_))))))
    | refine T_aload_n (pc1 := 442) (pc := 441) k_L_law_441 rfl rfl ?_
    | refine T_aload_nN (pc1 := 442) (pc := 441) k_L_law_441 rfl rfl ?_
    | refine T_iload_n (pc1 := 443) (pc := 442) k_L_law_442 rfl rfl ?_
    | refine T_iconst (v := (nI 1)) (pc1 := 444) (pc := 443) k_L_law_443 rfl (by decide) ?_
    | with_reducible refine T_iaddN (pc1 := 445) (pc := 444) k_L_law_444 (by decide) ?_
    | refine T_iadd (pc1 := 445) (pc := 444) k_L_law_444 rfl ?_
    | refine T_scN (pc1 := 446) (pc := 445) k_L_law_445 rfl (by assumption) (by omega) (by omega) ?_)
  (refine T_cV (As := [_]) (d1 := 4) (pc1 := 449) (pc := 446) k_L_law_446 rfl (by decide) (Nat.le_of_ble_eq_true rfl) rfl o_S_deal l_L_40 rfl (by assumption) rfl (c_S_deal G0 ok okw c1 fun J1 r1 n' f1 ok1 okw1 L1 e1 => ?_) <;> try dsimp only [psh])
  have C1 := CI_fr (r := 43) hC m14 GS_rf (by omega) (by omega) f1 (fun i hi => Or.inl hi) L1
  have M1 := MI_fr hM f1 (fun i h1 h2 h3 => tf_mod h1 h2 (Or.inl h3))
  obtain ⟨x102, x103, xk, xSo, xSi, xPl, xTh, xHe, xWt, xw, xT, xz⟩ := id M1
  repeat' (first
    | ((first | refine T_aload_n (pc1 := 450) (pc := 449) k_L_law_449 rfl rfl ?_ | refine T_aload_nN (pc1 := 450) (pc := 449) k_L_law_449 rfl rfl ?_) <;> try ((first | refine T_aload_n (pc1 := 451) (pc := 450) k_L_law_450 rfl rfl ?_ | refine T_aload_nN (pc1 := 451) (pc := 450) k_L_law_450 rfl rfl ?_) <;> try (refine T_iload_n (pc1 := 452) (pc := 451) k_L_law_451 rfl rfl ?_ <;> try (refine T_iconst (v := (nI 1)) (pc1 := 453) (pc := 452) k_L_law_452 rfl (by decide) ?_ <;> try ((first | with_reducible refine T_iaddN (pc1 := 454) (pc := 453) k_L_law_453 (by decide) ?_ | refine T_iadd (pc1 := 454) (pc := 453) k_L_law_453 rfl ?_) <;> try (refine T_scN (pc1 := 455) (pc := 454) k_L_law_454 rfl (by assumption) (by omega) (by omega) ?_))))))
    | refine T_aload_n (pc1 := 451) (pc := 450) k_L_law_450 rfl rfl ?_
    | refine T_aload_nN (pc1 := 451) (pc := 450) k_L_law_450 rfl rfl ?_
    | refine T_iload_n (pc1 := 452) (pc := 451) k_L_law_451 rfl rfl ?_
    | refine T_iconst (v := (nI 1)) (pc1 := 453) (pc := 452) k_L_law_452 rfl (by decide) ?_
    | with_reducible refine T_iaddN (pc1 := 454) (pc := 453) k_L_law_453 (by decide) ?_
    | refine T_iadd (pc1 := 454) (pc := 453) k_L_law_453 rfl ?_
    | refine T_scN (pc1 := 455) (pc := 454) k_L_law_454 rfl (by assumption) (by omega) (by omega) ?_)
  (refine T_cV (As := [_]) (d1 := 2) (pc1 := 458) (pc := 455) k_L_law_455 rfl (by decide) (Nat.le_of_ble_eq_true rfl) rfl o_M_deal l_L_44 rfl (by assumption) rfl (c_M_deal G0 x102 ok.1 n14 fun J2 r2 f2 q2 e2 => ?_) <;> try dsimp only [psh])
  refine T_icmp_eq_t k_L_law_458 rfl (e1.trans e2.symm) ?_
  exact kk g J2 ⟨_, M, So, Si, Pl, Th, He, Wt, T, n', tn, n2, tn2, w, z, kept, HI_s hH, CI_mo C1 ok1.2.1 m14 (eqx_fre f2 (by decide)), MI_N M1 f2 (by decide) q2, ⟨ok1, okw1, okk, oks, okh, okt, hw60, fun k hk => (dealN_hi hk _ _ _ (dealM_le n14)).trans (h1556 k hk)⟩⟩
theorem cs_pour (hI : Inv c G g I) (hi : i + 6 ≤ G.1.2.1) (hl : G.1.2.1 ≤ 384) (kk : ∀ g' J, Inv (c + 1) G g' J → Rl 153 M_L_law 1495 (LL i) [] g' J K) : Rl 153 M_L_law 1129 (LL i) [] g I K := by
  obtain ⟨N, M, So, Si, Pl, Th, He, Wt, T, n, tn, n2, tn2, w, z, kept, hH, hC, hM, hO⟩ := hI
  have G0 := hH.1
  have hg := hH.2.1
  obtain ⟨ok, okw, okk, oks, okh, okt, hw60, h1556⟩ := id hO
  have n14 : n ≤ 14 := ok.2.1
  have m14 : kept = true → n2 ≤ 14 := fun k => (okk k).1.2.1
  have a0 : isAg g 0 9 11 := ga G0 (by decide) rfl
  have a1 : isAg g 101 10 31 := ga G0 (by decide) rfl
  obtain ⟨c1, c2, c3, c4, c5, c6, c7⟩ := id hC
  unfold LL
  repeat' (first
    | ((first | refine T_aload_n (pc1 := 1130) (pc := 1129) k_L_law_1129 rfl rfl ?_ | refine T_aload_nN (pc1 := 1130) (pc := 1129) k_L_law_1129 rfl rfl ?_) <;> try ((first | refine T_aload_n (pc1 := 1131) (pc := 1130) k_L_law_1130 rfl rfl ?_ | refine T_aload_nN (pc1 := 1131) (pc := 1130) k_L_law_1130 rfl rfl ?_) <;> try (refine T_iload_n (pc1 := 1132) (pc := 1131) k_L_law_1131 rfl rfl ?_ <;> try (refine T_iconst (v := (nI 1)) (pc1 := 1133) (pc := 1132) k_L_law_1132 rfl (by decide) ?_ <;> try ((first | with_reducible refine T_iaddN (pc1 := 1134) (pc := 1133) k_L_law_1133 (by decide) ?_ | refine T_iadd (pc1 := 1134) (pc := 1133) k_L_law_1133 rfl ?_) <;> try (refine T_scN (pc1 := 1135) (pc := 1134) k_L_law_1134 rfl (by assumption) (by omega) (by omega) ?_))))))
    | refine T_aload_n (pc1 := 1131) (pc := 1130) k_L_law_1130 rfl rfl ?_
    | refine T_aload_nN (pc1 := 1131) (pc := 1130) k_L_law_1130 rfl rfl ?_
    | refine T_iload_n (pc1 := 1132) (pc := 1131) k_L_law_1131 rfl rfl ?_
    | refine T_iconst (v := (nI 1)) (pc1 := 1133) (pc := 1132) k_L_law_1132 rfl (by decide) ?_
    | with_reducible refine T_iaddN (pc1 := 1134) (pc := 1133) k_L_law_1133 (by decide) ?_
    | refine T_iadd (pc1 := 1134) (pc := 1133) k_L_law_1133 rfl ?_
    | refine T_scN (pc1 := 1135) (pc := 1134) k_L_law_1134 rfl (by assumption) (by omega) (by omega) ?_)
  (refine T_cV (As := [_]) (d1 := 3) (pc1 := 1138) (pc := 1135) k_L_law_1135 rfl (by decide) (Nat.le_of_ble_eq_true rfl) rfl o_S_pour l_L_134 rfl (by assumption) rfl (c_S_pour G0 ok okw c1 oks c4 fun J1 r1 f1 ok1 okw1 L1 e1 => ?_) <;> try dsimp only [psh])
  have C1 := CI_fr (r := 43) hC m14 GS_rf (by omega) (by omega) f1 (fun i hi => Or.inl hi) L1
  have M1 := MI_fr hM f1 (fun i h1 h2 h3 => tf_mod h1 h2 (Or.inl h3))
  obtain ⟨x102, x103, xk, xSo, xSi, xPl, xTh, xHe, xWt, xw, xT, xz⟩ := id M1
  repeat' (first
    | ((first | refine T_aload_n (pc1 := 1139) (pc := 1138) k_L_law_1138 rfl rfl ?_ | refine T_aload_nN (pc1 := 1139) (pc := 1138) k_L_law_1138 rfl rfl ?_) <;> try ((first | refine T_aload_n (pc1 := 1140) (pc := 1139) k_L_law_1139 rfl rfl ?_ | refine T_aload_nN (pc1 := 1140) (pc := 1139) k_L_law_1139 rfl rfl ?_) <;> try (refine T_iload_n (pc1 := 1141) (pc := 1140) k_L_law_1140 rfl rfl ?_ <;> try (refine T_iconst (v := (nI 1)) (pc1 := 1142) (pc := 1141) k_L_law_1141 rfl (by decide) ?_ <;> try ((first | with_reducible refine T_iaddN (pc1 := 1143) (pc := 1142) k_L_law_1142 (by decide) ?_ | refine T_iadd (pc1 := 1143) (pc := 1142) k_L_law_1142 rfl ?_) <;> try (refine T_scN (pc1 := 1144) (pc := 1143) k_L_law_1143 rfl (by assumption) (by omega) (by omega) ?_))))))
    | refine T_aload_n (pc1 := 1140) (pc := 1139) k_L_law_1139 rfl rfl ?_
    | refine T_aload_nN (pc1 := 1140) (pc := 1139) k_L_law_1139 rfl rfl ?_
    | refine T_iload_n (pc1 := 1141) (pc := 1140) k_L_law_1140 rfl rfl ?_
    | refine T_iconst (v := (nI 1)) (pc1 := 1142) (pc := 1141) k_L_law_1141 rfl (by decide) ?_
    | with_reducible refine T_iaddN (pc1 := 1143) (pc := 1142) k_L_law_1142 (by decide) ?_
    | refine T_iadd (pc1 := 1143) (pc := 1142) k_L_law_1142 rfl ?_
    | refine T_scN (pc1 := 1144) (pc := 1143) k_L_law_1143 rfl (by assumption) (by omega) (by omega) ?_)
  (refine T_cV (As := [_]) (d1 := 3) (pc1 := 1147) (pc := 1144) k_L_law_1144 rfl (by decide) (Nat.le_of_ble_eq_true rfl) rfl o_M_pour l_L_137 rfl (by assumption) rfl (c_M_pour G0 x102 ok xSo xSi xPl oks fun J2 r2 f2 q2 e2 => ?_) <;> try dsimp only [psh])
  refine T_icmp_eq_t k_L_law_1147 rfl (e1.trans e2.symm) ?_
  exact kk g J2 ⟨_, M, So, Si, Pl, Th, He, Wt, T, n, tn, n2, tn2, w, z, kept, HI_s hH, CI_mo C1 n14 m14 (eqx_fre f2 (by decide)), MI_N M1 f2 (by decide) q2, ⟨ok1, okw1, okk, oks, okh, okt, hw60, fun k hk => (pourN_hi n14 hk).trans (h1556 k hk)⟩⟩
end L3

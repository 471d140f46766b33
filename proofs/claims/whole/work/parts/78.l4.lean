/-! The law: mark, copy. -/
section PL4
/-- the sheets move: the rest of the class stays -/
theorem CI_sh {g : Geo} {I J : IM} {N M So Si Pl So' Si' Pl' Th He Wt T : Row} {n tn n2 tn2 w z : Nat} {kept : Bool} (h : CI g I N M So Si Pl Th He Wt T n tn n2 tn2 w z kept) (hn : n ≤ 14) (h14 : kept = true → n2 ≤ 14) (hf : fre shf I J) (hS : CS J So' Si' Pl') : CI g J N M So' Si' Pl' Th He Wt T n tn n2 tn2 w z kept := by
  obtain ⟨c1, c2, c3, c4, c5, c6, c7⟩ := h
  refine ⟨LR_fr (r := 43) c1 hn GS_rf (by omega) (by omega) hf (fun i hi => by unfold lnd at hi; unfold shf; omega) (fun i hi => Or.inl (by unfold shf at hi; omega)), ?_, fun k => LR_fr (r := 43) (c3 k) (h14 k) GS_rf (by omega) (by omega) hf (fun i hi => by unfold lnd at hi; unfold shf; omega) (fun i hi => Or.inl (by unfold shf at hi; omega)), hS, CH_fr c5 hf (fun i hi => by unfold slf at hi; unfold shf; omega), ?_, ?_⟩
  · rw [hf 0 (by unfold shf; omega)]; exact c2
  · unfold CW at *
    rw [hf 0 (by unfold shf; omega), hf 72 (by unfold shf; omega)]
    exact c6
  · unfold CT at *
    rw [hf 67 (by unfold shf; omega), hf 68 (by unfold shf; omega)]
    exact c7
theorem MI_P {S : List Nat} {I J : IM} {N M So Si Pl Pl' Th He Wt T : Row} {w z : Nat} {kept : Bool} (h : MI I N M So Si Pl Th He Wt T w z kept) (hf : eqx S I J) (hS : ∀ i, i ∈ [101, 102, 103, 108, 114, 115, 118, 119, 120] → i ∉ S) (e : J 116 = Pl') : MI J N M So Si Pl' Th He Wt T w z kept := by
  obtain ⟨x1, x2, x3, x4, x5, x6, x7⟩ := h
  unfold MI
  rw [hf 101 (hS _ (by decide)), hf 102 (hS _ (by decide)), hf 103 (hS _ (by decide)), hf 108 (hS _ (by decide)), hf 114 (hS _ (by decide)), hf 115 (hS _ (by decide)), hf 118 (hS _ (by decide)), hf 119 (hS _ (by decide)), hf 120 (hS _ (by decide))]
  exact ⟨x1, x2, x3, x4, x5, e, x7⟩
end PL4
section L4
variable {g G : Geo} {I : IM} {K : Option Value → Geo → IM → Prop} {c i : Nat}
theorem cs_mark (hI : Inv c G g I) (hi : i + 6 ≤ G.1.2.1) (hl : G.1.2.1 ≤ 384) (kk : ∀ g' J, Inv (c + 1) G g' J → Rl 153 M_L_law 1495 (LL i) [] g' J K) : Rl 153 M_L_law 1086 (LL i) [] g I K := by
  obtain ⟨N, M, So, Si, Pl, Th, He, Wt, T, n, tn, n2, tn2, w, z, kept, hH, hC, hM, hO⟩ := hI
  have G0 := hH.1
  have hg := hH.2.1
  obtain ⟨ok, okw, okk, oks, okh, okt, hw60, h1556⟩ := id hO
  have n14 : n ≤ 14 := ok.2.1
  have m14 : kept = true → n2 ≤ 14 := fun k => (okk k).1.2.1
  have a0 : isAg g 0 9 11 := ga G0 (by decide) rfl
  have a1 : isAg g 101 10 31 := ga G0 (by decide) rfl
  obtain ⟨c1, c2, c3, c4, c5, c6, c7⟩ := id hC
  unfold LL
  repeat' (first
    | ((first | refine T_aload_n (pc1 := 1087) (pc := 1086) k_L_law_1086 rfl rfl ?_ | refine T_aload_nN (pc1 := 1087) (pc := 1086) k_L_law_1086 rfl rfl ?_) <;> try ((first | refine T_aload_n (pc1 := 1088) (pc := 1087) k_L_law_1087 rfl rfl ?_ | refine T_aload_nN (pc1 := 1088) (pc := 1087) k_L_law_1087 rfl rfl ?_) <;> try (refine T_iload_n (pc1 := 1089) (pc := 1088) k_L_law_1088 rfl rfl ?_ <;> try (refine T_iconst (v := (nI 1)) (pc1 := 1090) (pc := 1089) k_L_law_1089 rfl (by decide) ?_ <;> try ((first | with_reducible refine T_iaddN (pc1 := 1091) (pc := 1090) k_L_law_1090 (by decide) ?_ | refine T_iadd (pc1 := 1091) (pc := 1090) k_L_law_1090 rfl ?_) <;> try (refine T_scN (pc1 := 1092) (pc := 1091) k_L_law_1091 rfl (by assumption) (by omega) (by omega) ?_ <;> try ((first | refine T_aload_n (pc1 := 1093) (pc := 1092) k_L_law_1092 rfl rfl ?_ | refine T_aload_nN (pc1 := 1093) (pc := 1092) k_L_law_1092 rfl rfl ?_) <;> try (refine T_iload_n (pc1 := 1094) (pc := 1093) k_L_law_1093 rfl rfl ?_ <;> try (refine T_iconst (v := (nI 2)) (pc1 := 1095) (pc := 1094) k_L_law_1094 rfl (by decide) ?_ <;> try ((first | with_reducible refine T_iaddN (pc1 := 1096) (pc := 1095) k_L_law_1095 (by decide) ?_ | refine T_iadd (pc1 := 1096) (pc := 1095) k_L_law_1095 rfl ?_) <;> try (refine T_scN (pc1 := 1097) (pc := 1096) k_L_law_1096 rfl (by assumption) (by omega) (by omega) ?_ <;> try ((first | refine T_aload_n (pc1 := 1098) (pc := 1097) k_L_law_1097 rfl rfl ?_ | refine T_aload_nN (pc1 := 1098) (pc := 1097) k_L_law_1097 rfl rfl ?_) <;> try (refine T_iload_n (pc1 := 1099) (pc := 1098) k_L_law_1098 rfl rfl ?_ <;> try (refine T_iconst (v := (nI 3)) (pc1 := 1100) (pc := 1099) k_L_law_1099 rfl (by decide) ?_))))))))))))))
    | ((first | with_reducible refine T_iaddN (pc1 := 1101) (pc := 1100) k_L_law_1100 (by decide) ?_ | refine T_iadd (pc1 := 1101) (pc := 1100) k_L_law_1100 rfl ?_) <;> try (refine T_scN (pc1 := 1102) (pc := 1101) k_L_law_1101 rfl (by assumption) (by omega) (by omega) ?_))
    | refine T_aload_n (pc1 := 1088) (pc := 1087) k_L_law_1087 rfl rfl ?_
    | refine T_aload_nN (pc1 := 1088) (pc := 1087) k_L_law_1087 rfl rfl ?_
    | refine T_iload_n (pc1 := 1089) (pc := 1088) k_L_law_1088 rfl rfl ?_
    | refine T_iconst (v := (nI 1)) (pc1 := 1090) (pc := 1089) k_L_law_1089 rfl (by decide) ?_
    | with_reducible refine T_iaddN (pc1 := 1091) (pc := 1090) k_L_law_1090 (by decide) ?_
    | refine T_iadd (pc1 := 1091) (pc := 1090) k_L_law_1090 rfl ?_
    | refine T_scN (pc1 := 1092) (pc := 1091) k_L_law_1091 rfl (by assumption) (by omega) (by omega) ?_
    | refine T_aload_n (pc1 := 1093) (pc := 1092) k_L_law_1092 rfl rfl ?_
    | refine T_aload_nN (pc1 := 1093) (pc := 1092) k_L_law_1092 rfl rfl ?_
    | refine T_iload_n (pc1 := 1094) (pc := 1093) k_L_law_1093 rfl rfl ?_
    | refine T_iconst (v := (nI 2)) (pc1 := 1095) (pc := 1094) k_L_law_1094 rfl (by decide) ?_
    | with_reducible refine T_iaddN (pc1 := 1096) (pc := 1095) k_L_law_1095 (by decide) ?_
    | refine T_iadd (pc1 := 1096) (pc := 1095) k_L_law_1095 rfl ?_
    | refine T_scN (pc1 := 1097) (pc := 1096) k_L_law_1096 rfl (by assumption) (by omega) (by omega) ?_
    | refine T_aload_n (pc1 := 1098) (pc := 1097) k_L_law_1097 rfl rfl ?_
    | refine T_aload_nN (pc1 := 1098) (pc := 1097) k_L_law_1097 rfl rfl ?_
    | refine T_iload_n (pc1 := 1099) (pc := 1098) k_L_law_1098 rfl rfl ?_
    | refine T_iconst (v := (nI 3)) (pc1 := 1100) (pc := 1099) k_L_law_1099 rfl (by decide) ?_
    | refine T_scN (pc1 := 1102) (pc := 1101) k_L_law_1101 rfl (by assumption) (by omega) (by omega) ?_)
  (refine T_cV (As := [_, _, _]) (d1 := 3) (pc1 := 1105) (pc := 1102) k_L_law_1102 rfl (by decide) (Nat.le_of_ble_eq_true rfl) rfl o_S_mark l_L_130 rfl (by assumption) rfl (c_S_mark G0 oks c4 fun J1 r1 f1 S1 e1 => ?_) <;> try dsimp only [psh])
  have C1 := CI_sh hC n14 m14 f1 S1
  have M1 := MI_fr hM f1 (fun i h1 h2 h3 => by unfold shf at h3; omega)
  obtain ⟨x102, x103, xk, xSo, xSi, xPl, xTh, xHe, xWt, xw, xT, xz⟩ := id M1
  repeat' (first
    | ((first | refine T_aload_n (pc1 := 1106) (pc := 1105) k_L_law_1105 rfl rfl ?_ | refine T_aload_nN (pc1 := 1106) (pc := 1105) k_L_law_1105 rfl rfl ?_) <;> try ((first | refine T_aload_n (pc1 := 1107) (pc := 1106) k_L_law_1106 rfl rfl ?_ | refine T_aload_nN (pc1 := 1107) (pc := 1106) k_L_law_1106 rfl rfl ?_) <;> try (refine T_iload_n (pc1 := 1108) (pc := 1107) k_L_law_1107 rfl rfl ?_ <;> try (refine T_iconst (v := (nI 1)) (pc1 := 1109) (pc := 1108) k_L_law_1108 rfl (by decide) ?_ <;> try ((first | with_reducible refine T_iaddN (pc1 := 1110) (pc := 1109) k_L_law_1109 (by decide) ?_ | refine T_iadd (pc1 := 1110) (pc := 1109) k_L_law_1109 rfl ?_) <;> try (refine T_scN (pc1 := 1111) (pc := 1110) k_L_law_1110 rfl (by assumption) (by omega) (by omega) ?_ <;> try ((first | refine T_aload_n (pc1 := 1112) (pc := 1111) k_L_law_1111 rfl rfl ?_ | refine T_aload_nN (pc1 := 1112) (pc := 1111) k_L_law_1111 rfl rfl ?_) <;> try (refine T_iload_n (pc1 := 1113) (pc := 1112) k_L_law_1112 rfl rfl ?_ <;> try (refine T_iconst (v := (nI 2)) (pc1 := 1114) (pc := 1113) k_L_law_1113 rfl (by decide) ?_ <;> try ((first | with_reducible refine T_iaddN (pc1 := 1115) (pc := 1114) k_L_law_1114 (by decide) ?_ | refine T_iadd (pc1 := 1115) (pc := 1114) k_L_law_1114 rfl ?_) <;> try (refine T_scN (pc1 := 1116) (pc := 1115) k_L_law_1115 rfl (by assumption) (by omega) (by omega) ?_ <;> try ((first | refine T_aload_n (pc1 := 1117) (pc := 1116) k_L_law_1116 rfl rfl ?_ | refine T_aload_nN (pc1 := 1117) (pc := 1116) k_L_law_1116 rfl rfl ?_) <;> try (refine T_iload_n (pc1 := 1118) (pc := 1117) k_L_law_1117 rfl rfl ?_ <;> try (refine T_iconst (v := (nI 3)) (pc1 := 1119) (pc := 1118) k_L_law_1118 rfl (by decide) ?_))))))))))))))
    | ((first | with_reducible refine T_iaddN (pc1 := 1120) (pc := 1119) k_L_law_1119 (by decide) ?_ | refine T_iadd (pc1 := 1120) (pc := 1119) k_L_law_1119 rfl ?_) <;> try (refine T_scN (pc1 := 1121) (pc := 1120) k_L_law_1120 rfl (by assumption) (by omega) (by omega) ?_))
    | refine T_aload_n (pc1 := 1107) (pc := 1106) k_L_law_1106 rfl rfl ?_
    | refine T_aload_nN (pc1 := 1107) (pc := 1106) k_L_law_1106 rfl rfl ?_
    | refine T_iload_n (pc1 := 1108) (pc := 1107) k_L_law_1107 rfl rfl ?_
    | refine T_iconst (v := (nI 1)) (pc1 := 1109) (pc := 1108) k_L_law_1108 rfl (by decide) ?_
    | with_reducible refine T_iaddN (pc1 := 1110) (pc := 1109) k_L_law_1109 (by decide) ?_
    | refine T_iadd (pc1 := 1110) (pc := 1109) k_L_law_1109 rfl ?_
    | refine T_scN (pc1 := 1111) (pc := 1110) k_L_law_1110 rfl (by assumption) (by omega) (by omega) ?_
    | refine T_aload_n (pc1 := 1112) (pc := 1111) k_L_law_1111 rfl rfl ?_
    | refine T_aload_nN (pc1 := 1112) (pc := 1111) k_L_law_1111 rfl rfl ?_
    | refine T_iload_n (pc1 := 1113) (pc := 1112) k_L_law_1112 rfl rfl ?_
    | refine T_iconst (v := (nI 2)) (pc1 := 1114) (pc := 1113) k_L_law_1113 rfl (by decide) ?_
    | with_reducible refine T_iaddN (pc1 := 1115) (pc := 1114) k_L_law_1114 (by decide) ?_
    | refine T_iadd (pc1 := 1115) (pc := 1114) k_L_law_1114 rfl ?_
    | refine T_scN (pc1 := 1116) (pc := 1115) k_L_law_1115 rfl (by assumption) (by omega) (by omega) ?_
    | refine T_aload_n (pc1 := 1117) (pc := 1116) k_L_law_1116 rfl rfl ?_
    | refine T_aload_nN (pc1 := 1117) (pc := 1116) k_L_law_1116 rfl rfl ?_
    | refine T_iload_n (pc1 := 1118) (pc := 1117) k_L_law_1117 rfl rfl ?_
    | refine T_iconst (v := (nI 3)) (pc1 := 1119) (pc := 1118) k_L_law_1118 rfl (by decide) ?_
    | refine T_scN (pc1 := 1121) (pc := 1120) k_L_law_1120 rfl (by assumption) (by omega) (by omega) ?_)
  (refine T_cV (As := [_, _, _]) (d1 := 3) (pc1 := 1124) (pc := 1121) k_L_law_1121 rfl (by decide) (Nat.le_of_ble_eq_true rfl) rfl o_M_mark l_L_133 rfl (by assumption) rfl (c_M_mark G0 xSo xSi xPl oks fun J2 r2 f2 q2 e2 => ?_) <;> try dsimp only [psh])
  refine T_icmp_eq_t k_L_law_1124 rfl (e1.trans e2.symm) ?_
  exact kk g J2 ⟨N, M, So, Si, _, Th, He, Wt, T, n, tn, n2, tn2, w, z, kept, HI_s hH, CI_mo C1 n14 m14 (eqx_fre f2 (by decide)), MI_P M1 f2 (by decide) q2, hO⟩
theorem cs_copy (hI : Inv c G g I) (hi : i + 6 ≤ G.1.2.1) (hl : G.1.2.1 ≤ 384) (kk : ∀ g' J, Inv (c + 1) G g' J → Rl 153 M_L_law 1495 (LL i) [] g' J K) : Rl 153 M_L_law 1175 (LL i) [] g I K := by
  obtain ⟨N, M, So, Si, Pl, Th, He, Wt, T, n, tn, n2, tn2, w, z, kept, hH, hC, hM, hO⟩ := hI
  have G0 := hH.1
  have hg := hH.2.1
  obtain ⟨ok, okw, okk, oks, okh, okt, hw60, h1556⟩ := id hO
  have n14 : n ≤ 14 := ok.2.1
  have m14 : kept = true → n2 ≤ 14 := fun k => (okk k).1.2.1
  have a0 : isAg g 0 9 11 := ga G0 (by decide) rfl
  have a1 : isAg g 101 10 31 := ga G0 (by decide) rfl
  obtain ⟨c1, c2, c3, c4, c5, c6, c7⟩ := id hC
  unfold LL
  repeat' (first
    | ((first | refine T_aload_n (pc1 := 1176) (pc := 1175) k_L_law_1175 rfl rfl ?_ | refine T_aload_nN (pc1 := 1176) (pc := 1175) k_L_law_1175 rfl rfl ?_) <;> try ((first | refine T_aload_n (pc1 := 1177) (pc := 1176) k_L_law_1176 rfl rfl ?_ | refine T_aload_nN (pc1 := 1177) (pc := 1176) k_L_law_1176 rfl rfl ?_) <;> try (refine T_iload_n (pc1 := 1178) (pc := 1177) k_L_law_1177 rfl rfl ?_ <;> try (refine T_iconst (v := (nI 1)) (pc1 := 1179) (pc := 1178) k_L_law_1178 rfl (by decide) ?_ <;> try ((first | with_reducible refine T_iaddN (pc1 := 1180) (pc := 1179) k_L_law_1179 (by decide) ?_ | refine T_iadd (pc1 := 1180) (pc := 1179) k_L_law_1179 rfl ?_) <;> try (refine T_scN (pc1 := 1181) (pc := 1180) k_L_law_1180 rfl (by assumption) (by omega) (by omega) ?_ <;> try ((first | refine T_aload_n (pc1 := 1182) (pc := 1181) k_L_law_1181 rfl rfl ?_ | refine T_aload_nN (pc1 := 1182) (pc := 1181) k_L_law_1181 rfl rfl ?_) <;> try (refine T_iload_n (pc1 := 1183) (pc := 1182) k_L_law_1182 rfl rfl ?_ <;> try (refine T_iconst (v := (nI 2)) (pc1 := 1184) (pc := 1183) k_L_law_1183 rfl (by decide) ?_ <;> try ((first | with_reducible refine T_iaddN (pc1 := 1185) (pc := 1184) k_L_law_1184 (by decide) ?_ | refine T_iadd (pc1 := 1185) (pc := 1184) k_L_law_1184 rfl ?_) <;> try (refine T_scN (pc1 := 1186) (pc := 1185) k_L_law_1185 rfl (by assumption) (by omega) (by omega) ?_ <;> try ((first | refine T_aload_n (pc1 := 1187) (pc := 1186) k_L_law_1186 rfl rfl ?_ | refine T_aload_nN (pc1 := 1187) (pc := 1186) k_L_law_1186 rfl rfl ?_) <;> try (refine T_iload_n (pc1 := 1188) (pc := 1187) k_L_law_1187 rfl rfl ?_ <;> try (refine T_iconst (v := (nI 3)) (pc1 := 1189) (pc := 1188) k_L_law_1188 rfl (by decide) ?_))))))))))))))
    | ((first | with_reducible refine T_iaddN (pc1 := 1190) (pc := 1189) k_L_law_1189 (by decide) ?_ | refine T_iadd (pc1 := 1190) (pc := 1189) k_L_law_1189 rfl ?_) <;> try (refine T_scN (pc1 := 1191) (pc := 1190) k_L_law_1190 rfl (by assumption) (by omega) (by omega) ?_ <;> try ((first | refine T_aload_n (pc1 := 1192) (pc := 1191) k_L_law_1191 rfl rfl ?_ | refine T_aload_nN (pc1 := 1192) (pc := 1191) k_L_law_1191 rfl rfl ?_) <;> try (refine T_iload_n (pc1 := 1193) (pc := 1192) k_L_law_1192 rfl rfl ?_ <;> try (refine T_iconst (v := (nI 4)) (pc1 := 1194) (pc := 1193) k_L_law_1193 rfl (by decide) ?_ <;> try ((first | with_reducible refine T_iaddN (pc1 := 1195) (pc := 1194) k_L_law_1194 (by decide) ?_ | refine T_iadd (pc1 := 1195) (pc := 1194) k_L_law_1194 rfl ?_) <;> try (refine T_scN (pc1 := 1196) (pc := 1195) k_L_law_1195 rfl (by assumption) (by omega) (by omega) ?_ <;> try ((first | refine T_aload_n (pc1 := 1197) (pc := 1196) k_L_law_1196 rfl rfl ?_ | refine T_aload_nN (pc1 := 1197) (pc := 1196) k_L_law_1196 rfl rfl ?_) <;> try (refine T_iload_n (pc1 := 1198) (pc := 1197) k_L_law_1197 rfl rfl ?_ <;> try (refine T_iconst (v := (nI 5)) (pc1 := 1199) (pc := 1198) k_L_law_1198 rfl (by decide) ?_ <;> try ((first | with_reducible refine T_iaddN (pc1 := 1200) (pc := 1199) k_L_law_1199 (by decide) ?_ | refine T_iadd (pc1 := 1200) (pc := 1199) k_L_law_1199 rfl ?_) <;> try (refine T_scN (pc1 := 1201) (pc := 1200) k_L_law_1200 rfl (by assumption) (by omega) (by omega) ?_))))))))))))
    | refine T_aload_n (pc1 := 1177) (pc := 1176) k_L_law_1176 rfl rfl ?_
    | refine T_aload_nN (pc1 := 1177) (pc := 1176) k_L_law_1176 rfl rfl ?_
    | refine T_iload_n (pc1 := 1178) (pc := 1177) k_L_law_1177 rfl rfl ?_
    | refine T_iconst (v := (nI 1)) (pc1 := 1179) (pc := 1178) k_L_law_1178 rfl (by decide) ?_
    | with_reducible refine T_iaddN (pc1 := 1180) (pc := 1179) k_L_law_1179 (by decide) ?_
    | refine T_iadd (pc1 := 1180) (pc := 1179) k_L_law_1179 rfl ?_
    | refine T_scN (pc1 := 1181) (pc := 1180) k_L_law_1180 rfl (by assumption) (by omega) (by omega) ?_
    | refine T_aload_n (pc1 := 1182) (pc := 1181) k_L_law_1181 rfl rfl ?_
    | refine T_aload_nN (pc1 := 1182) (pc := 1181) k_L_law_1181 rfl rfl ?_
    | refine T_iload_n (pc1 := 1183) (pc := 1182) k_L_law_1182 rfl rfl ?_
    | refine T_iconst (v := (nI 2)) (pc1 := 1184) (pc := 1183) k_L_law_1183 rfl (by decide) ?_
    | with_reducible refine T_iaddN (pc1 := 1185) (pc := 1184) k_L_law_1184 (by decide) ?_
    | refine T_iadd (pc1 := 1185) (pc := 1184) k_L_law_1184 rfl ?_
    | refine T_scN (pc1 := 1186) (pc := 1185) k_L_law_1185 rfl (by assumption) (by omega) (by omega) ?_
    | refine T_aload_n (pc1 := 1187) (pc := 1186) k_L_law_1186 rfl rfl ?_
    | refine T_aload_nN (pc1 := 1187) (pc := 1186) k_L_law_1186 rfl rfl ?_
    | refine T_iload_n (pc1 := 1188) (pc := 1187) k_L_law_1187 rfl rfl ?_
    | refine T_iconst (v := (nI 3)) (pc1 := 1189) (pc := 1188) k_L_law_1188 rfl (by decide) ?_
    | refine T_scN (pc1 := 1191) (pc := 1190) k_L_law_1190 rfl (by assumption) (by omega) (by omega) ?_
    | refine T_aload_n (pc1 := 1192) (pc := 1191) k_L_law_1191 rfl rfl ?_
    | refine T_aload_nN (pc1 := 1192) (pc := 1191) k_L_law_1191 rfl rfl ?_
    | refine T_iload_n (pc1 := 1193) (pc := 1192) k_L_law_1192 rfl rfl ?_
    | refine T_iconst (v := (nI 4)) (pc1 := 1194) (pc := 1193) k_L_law_1193 rfl (by decide) ?_
    | with_reducible refine T_iaddN (pc1 := 1195) (pc := 1194) k_L_law_1194 (by decide) ?_
    | refine T_iadd (pc1 := 1195) (pc := 1194) k_L_law_1194 rfl ?_
    | refine T_scN (pc1 := 1196) (pc := 1195) k_L_law_1195 rfl (by assumption) (by omega) (by omega) ?_
    | refine T_aload_n (pc1 := 1197) (pc := 1196) k_L_law_1196 rfl rfl ?_
    | refine T_aload_nN (pc1 := 1197) (pc := 1196) k_L_law_1196 rfl rfl ?_
    | refine T_iload_n (pc1 := 1198) (pc := 1197) k_L_law_1197 rfl rfl ?_
    | refine T_iconst (v := (nI 5)) (pc1 := 1199) (pc := 1198) k_L_law_1198 rfl (by decide) ?_
    | with_reducible refine T_iaddN (pc1 := 1200) (pc := 1199) k_L_law_1199 (by decide) ?_
    | refine T_iadd (pc1 := 1200) (pc := 1199) k_L_law_1199 rfl ?_
    | refine T_scN (pc1 := 1201) (pc := 1200) k_L_law_1200 rfl (by assumption) (by omega) (by omega) ?_)
  (refine T_cV (As := [_, _, _, _, _]) (d1 := 3) (pc1 := 1204) (pc := 1201) k_L_law_1201 rfl (by decide) (Nat.le_of_ble_eq_true rfl) rfl o_S_copy l_L_142 rfl (by assumption) rfl (c_S_copy G0 oks c4 fun J1 r1 f1 S1 e1 => ?_) <;> try dsimp only [psh])
  have C1 := CI_sh hC n14 m14 f1 S1
  have M1 := MI_fr hM f1 (fun i h1 h2 h3 => by unfold shf at h3; omega)
  obtain ⟨x102, x103, xk, xSo, xSi, xPl, xTh, xHe, xWt, xw, xT, xz⟩ := id M1
  repeat' (first
    | ((first | refine T_aload_n (pc1 := 1205) (pc := 1204) k_L_law_1204 rfl rfl ?_ | refine T_aload_nN (pc1 := 1205) (pc := 1204) k_L_law_1204 rfl rfl ?_) <;> try ((first | refine T_aload_n (pc1 := 1206) (pc := 1205) k_L_law_1205 rfl rfl ?_ | refine T_aload_nN (pc1 := 1206) (pc := 1205) k_L_law_1205 rfl rfl ?_) <;> try (refine T_iload_n (pc1 := 1207) (pc := 1206) k_L_law_1206 rfl rfl ?_ <;> try (refine T_iconst (v := (nI 1)) (pc1 := 1208) (pc := 1207) k_L_law_1207 rfl (by decide) ?_ <;> try ((first | with_reducible refine T_iaddN (pc1 := 1209) (pc := 1208) k_L_law_1208 (by decide) ?_ | refine T_iadd (pc1 := 1209) (pc := 1208) k_L_law_1208 rfl ?_) <;> try (refine T_scN (pc1 := 1210) (pc := 1209) k_L_law_1209 rfl (by assumption) (by omega) (by omega) ?_ <;> try ((first | refine T_aload_n (pc1 := 1211) (pc := 1210) k_L_law_1210 rfl rfl ?_ | refine T_aload_nN (pc1 := 1211) (pc := 1210) k_L_law_1210 rfl rfl ?_) <;> try (refine T_iload_n (pc1 := 1212) (pc := 1211) k_L_law_1211 rfl rfl ?_ <;> try (refine T_iconst (v := (nI 2)) (pc1 := 1213) (pc := 1212) k_L_law_1212 rfl (by decide) ?_ <;> try ((first | with_reducible refine T_iaddN (pc1 := 1214) (pc := 1213) k_L_law_1213 (by decide) ?_ | refine T_iadd (pc1 := 1214) (pc := 1213) k_L_law_1213 rfl ?_) <;> try (refine T_scN (pc1 := 1215) (pc := 1214) k_L_law_1214 rfl (by assumption) (by omega) (by omega) ?_ <;> try ((first | refine T_aload_n (pc1 := 1216) (pc := 1215) k_L_law_1215 rfl rfl ?_ | refine T_aload_nN (pc1 := 1216) (pc := 1215) k_L_law_1215 rfl rfl ?_) <;> try (refine T_iload_n (pc1 := 1217) (pc := 1216) k_L_law_1216 rfl rfl ?_ <;> try (refine T_iconst (v := (nI 3)) (pc1 := 1218) (pc := 1217) k_L_law_1217 rfl (by decide) ?_))))))))))))))
    | ((first | with_reducible refine T_iaddN (pc1 := 1219) (pc := 1218) k_L_law_1218 (by decide) ?_ | refine T_iadd (pc1 := 1219) (pc := 1218) k_L_law_1218 rfl ?_) <;> try (refine T_scN (pc1 := 1220) (pc := 1219) k_L_law_1219 rfl (by assumption) (by omega) (by omega) ?_ <;> try ((first | refine T_aload_n (pc1 := 1221) (pc := 1220) k_L_law_1220 rfl rfl ?_ | refine T_aload_nN (pc1 := 1221) (pc := 1220) k_L_law_1220 rfl rfl ?_) <;> try (refine T_iload_n (pc1 := 1222) (pc := 1221) k_L_law_1221 rfl rfl ?_ <;> try (refine T_iconst (v := (nI 4)) (pc1 := 1223) (pc := 1222) k_L_law_1222 rfl (by decide) ?_ <;> try ((first | with_reducible refine T_iaddN (pc1 := 1224) (pc := 1223) k_L_law_1223 (by decide) ?_ | refine T_iadd (pc1 := 1224) (pc := 1223) k_L_law_1223 rfl ?_) <;> try (refine T_scN (pc1 := 1225) (pc := 1224) k_L_law_1224 rfl (by assumption) (by omega) (by omega) ?_ <;> try ((first | refine T_aload_n (pc1 := 1226) (pc := 1225) k_L_law_1225 rfl rfl ?_ | refine T_aload_nN (pc1 := 1226) (pc := 1225) k_L_law_1225 rfl rfl ?_) <;> try (refine T_iload_n (pc1 := 1227) (pc := 1226) k_L_law_1226 rfl rfl ?_ <;> try (refine T_iconst (v := (nI 5)) (pc1 := 1228) (pc := 1227) k_L_law_1227 rfl (by decide) ?_ <;> try ((first | with_reducible refine T_iaddN (pc1 := 1229) (pc := 1228) k_L_law_1228 (by decide) ?_ | refine T_iadd (pc1 := 1229) (pc := 1228) k_L_law_1228 rfl ?_) <;> try (refine T_scN (pc1 := 1230) (pc := 1229) k_L_law_1229 rfl (by assumption) (by omega) (by omega) ?_))))))))))))
    | refine T_aload_n (pc1 := 1206) (pc := 1205) k_L_law_1205 rfl rfl ?_
    | refine T_aload_nN (pc1 := 1206) (pc := 1205) k_L_law_1205 rfl rfl ?_
    | refine T_iload_n (pc1 := 1207) (pc := 1206) k_L_law_1206 rfl rfl ?_
    | refine T_iconst (v := (nI 1)) (pc1 := 1208) (pc := 1207) k_L_law_1207 rfl (by decide) ?_
    | with_reducible refine T_iaddN (pc1 := 1209) (pc := 1208) k_L_law_1208 (by decide) ?_
    | refine T_iadd (pc1 := 1209) (pc := 1208) k_L_law_1208 rfl ?_
    | refine T_scN (pc1 := 1210) (pc := 1209) k_L_law_1209 rfl (by assumption) (by omega) (by omega) ?_
    | refine T_aload_n (pc1 := 1211) (pc := 1210) k_L_law_1210 rfl rfl ?_
    | refine T_aload_nN (pc1 := 1211) (pc := 1210) k_L_law_1210 rfl rfl ?_
    | refine T_iload_n (pc1 := 1212) (pc := 1211) k_L_law_1211 rfl rfl ?_
    | refine T_iconst (v := (nI 2)) (pc1 := 1213) (pc := 1212) k_L_law_1212 rfl (by decide) ?_
    | with_reducible refine T_iaddN (pc1 := 1214) (pc := 1213) k_L_law_1213 (by decide) ?_
    | refine T_iadd (pc1 := 1214) (pc := 1213) k_L_law_1213 rfl ?_
    | refine T_scN (pc1 := 1215) (pc := 1214) k_L_law_1214 rfl (by assumption) (by omega) (by omega) ?_
    | refine T_aload_n (pc1 := 1216) (pc := 1215) k_L_law_1215 rfl rfl ?_
    | refine T_aload_nN (pc1 := 1216) (pc := 1215) k_L_law_1215 rfl rfl ?_
    | refine T_iload_n (pc1 := 1217) (pc := 1216) k_L_law_1216 rfl rfl ?_
    | refine T_iconst (v := (nI 3)) (pc1 := 1218) (pc := 1217) k_L_law_1217 rfl (by decide) ?_
    | refine T_scN (pc1 := 1220) (pc := 1219) k_L_law_1219 rfl (by assumption) (by omega) (by omega) ?_
    | refine T_aload_n (pc1 := 1221) (pc := 1220) k_L_law_1220 rfl rfl ?_
    | refine T_aload_nN (pc1 := 1221) (pc := 1220) k_L_law_1220 rfl rfl ?_
    | refine T_iload_n (pc1 := 1222) (pc := 1221) k_L_law_1221 rfl rfl ?_
    | refine T_iconst (v := (nI 4)) (pc1 := 1223) (pc := 1222) k_L_law_1222 rfl (by decide) ?_
    | with_reducible refine T_iaddN (pc1 := 1224) (pc := 1223) k_L_law_1223 (by decide) ?_
    | refine T_iadd (pc1 := 1224) (pc := 1223) k_L_law_1223 rfl ?_
    | refine T_scN (pc1 := 1225) (pc := 1224) k_L_law_1224 rfl (by assumption) (by omega) (by omega) ?_
    | refine T_aload_n (pc1 := 1226) (pc := 1225) k_L_law_1225 rfl rfl ?_
    | refine T_aload_nN (pc1 := 1226) (pc := 1225) k_L_law_1225 rfl rfl ?_
    | refine T_iload_n (pc1 := 1227) (pc := 1226) k_L_law_1226 rfl rfl ?_
    | refine T_iconst (v := (nI 5)) (pc1 := 1228) (pc := 1227) k_L_law_1227 rfl (by decide) ?_
    | with_reducible refine T_iaddN (pc1 := 1229) (pc := 1228) k_L_law_1228 (by decide) ?_
    | refine T_iadd (pc1 := 1229) (pc := 1228) k_L_law_1228 rfl ?_
    | refine T_scN (pc1 := 1230) (pc := 1229) k_L_law_1229 rfl (by assumption) (by omega) (by omega) ?_)
  (refine T_cV (As := [_, _, _, _, _]) (d1 := 3) (pc1 := 1233) (pc := 1230) k_L_law_1230 rfl (by decide) (Nat.le_of_ble_eq_true rfl) rfl o_M_copy l_L_146 rfl (by assumption) rfl (c_M_copy G0 xSo xSi xPl oks fun J2 r2 f2 q2 e2 => ?_) <;> try dsimp only [psh])
  refine T_icmp_eq_t k_L_law_1233 rfl (e1.trans e2.symm) ?_
  exact kk g J2 ⟨N, M, So, Si, _, Th, He, Wt, T, n, tn, n2, tn2, w, z, kept, HI_s hH, CI_mo C1 n14 m14 (eqx_fre f2 (by decide)), MI_P M1 f2 (by decide) q2, hO⟩
end L4

theorem lc_0 {C : Cx} {L i : Nat} {xs : Nat → Int32} {μ : Mem} (hG : G C RL code 4 12) (hSc : Scr C L xs) (hL : L ≤ 512) (hi : i + 8 ≤ L) (hI : Inv μ) (hN : ∀ m2, Inv m2 → V C 1428 [(0, vR 87), (1, vR 0), (2, vR 67), (3, vI (nI i))] [] m2) : V C 204 [(0, vR 87), (1, vR 0), (2, vR 67), (3, vI (nI i))] [] μ := by
  refine V_aload_n (pc := 204) hG (dk dd_L_law_0 22 rfl) rfl ?_
  refine V_aload_n (pc := 205) hG (dk dd_L_law_0 23 rfl) rfl ?_
  refine V_iload_n (pc := 206) hG (dk dd_L_law_0 24 rfl) rfl ?_
  refine V_iconst (pc := 207) hG (dk dd_L_law_0 25 rfl) (v := 1) (by decide) ?_
  refine V_iadd (pc := 208) hG (dk dd_L_law_0 26 rfl) ?_
  refine V_sld (pc := 209) hG (dk dd_L_law_0 27 rfl) hSc (lrg hi hL 1 (by decide) (by decide)) ?_
  refine V_aload_n (pc := 210) hG (dk dd_L_law_0 28 rfl) rfl ?_
  refine V_iload_n (pc := 211) hG (dk dd_L_law_0 29 rfl) rfl ?_
  refine V_iconst (pc := 212) hG (dk dd_L_law_0 30 rfl) (v := 2) (by decide) ?_
  refine V_iadd (pc := 213) hG (dk dd_L_law_0 31 rfl) ?_
  refine V_sld (pc := 214) hG (dk dd_L_law_0 32 rfl) hSc (lrg hi hL 2 (by decide) (by decide)) ?_
  refine V_aload_n (pc := 215) hG (dk dd_L_law_0 33 rfl) rfl ?_
  refine V_iload_n (pc := 216) hG (dk dd_L_law_0 34 rfl) rfl ?_
  refine V_iconst (pc := 217) hG (dk dd_L_law_0 35 rfl) (v := 3) (by decide) ?_
  refine V_iadd (pc := 218) hG (dk dd_L_law_0 36 rfl) ?_
  refine V_sld (pc := 219) hG (dk dd_L_law_0 37 rfl) hSc (lrg hi hL 3 (by decide) (by decide)) ?_
  refine V_callVip (pc := 220) hG (dk dd_L_law_0 38 rfl) ml_L_13 mo_X9_row sh_0 rfl (o_row hI) (by decide) (by decide) rfl rfl rfl (fun x220 m220 p220 => ?_)
  refine V_aload_n (pc := 223) hG (dk dd_L_law_0 39 rfl) rfl ?_
  refine V_aload_n (pc := 224) hG (dk dd_L_law_1 0 rfl) rfl ?_
  refine V_iload_n (pc := 225) hG (dk dd_L_law_1 1 rfl) rfl ?_
  refine V_iconst (pc := 226) hG (dk dd_L_law_1 2 rfl) (v := 1) (by decide) ?_
  refine V_iadd (pc := 227) hG (dk dd_L_law_1 3 rfl) ?_
  refine V_sld (pc := 228) hG (dk dd_L_law_1 4 rfl) hSc (lrg hi hL 1 (by decide) (by decide)) ?_
  refine V_aload_n (pc := 229) hG (dk dd_L_law_1 5 rfl) rfl ?_
  refine V_iload_n (pc := 230) hG (dk dd_L_law_1 6 rfl) rfl ?_
  refine V_iconst (pc := 231) hG (dk dd_L_law_1 7 rfl) (v := 2) (by decide) ?_
  refine V_iadd (pc := 232) hG (dk dd_L_law_1 8 rfl) ?_
  refine V_sld (pc := 233) hG (dk dd_L_law_1 9 rfl) hSc (lrg hi hL 2 (by decide) (by decide)) ?_
  refine V_aload_n (pc := 234) hG (dk dd_L_law_1 10 rfl) rfl ?_
  refine V_iload_n (pc := 235) hG (dk dd_L_law_1 11 rfl) rfl ?_
  refine V_iconst (pc := 236) hG (dk dd_L_law_1 12 rfl) (v := 3) (by decide) ?_
  refine V_iadd (pc := 237) hG (dk dd_L_law_1 13 rfl) ?_
  refine V_sld (pc := 238) hG (dk dd_L_law_1 14 rfl) hSc (lrg hi hL 3 (by decide) (by decide)) ?_
  refine V_callVip (pc := 239) hG (dk dd_L_law_1 15 rfl) ml_L_17 mo_X10_row sh_67 rfl p220 (by decide) (by decide) rfl rfl rfl (fun x239 m239 p239 => ?_)
  refine V_icmp_eq (pc := 242) hG (dk dd_L_law_1 16 rfl) (tgt := 1428) (by decide) (fun h242 => ?_) (fun h242 => ?_)
  rotate_left
  rotate_left
  -- leaves: stop 1428; stop 245
  · exact hN _ p239.2
  · exact absurd p239.1.symm h242
theorem lc_1 {C : Cx} {L i : Nat} {xs : Nat → Int32} {μ : Mem} (hG : G C RL code 4 12) (hSc : Scr C L xs) (hL : L ≤ 512) (hi : i + 8 ≤ L) (hI : Inv μ) (hN : ∀ m2, Inv m2 → V C 1428 [(0, vR 87), (1, vR 0), (2, vR 67), (3, vI (nI i))] [] m2) : V C 247 [(0, vR 87), (1, vR 0), (2, vR 67), (3, vI (nI i))] [] μ := by
  refine V_aload_n (pc := 247) hG (dk dd_L_law_1 19 rfl) rfl ?_
  refine V_aload_n (pc := 248) hG (dk dd_L_law_1 20 rfl) rfl ?_
  refine V_iload_n (pc := 249) hG (dk dd_L_law_1 21 rfl) rfl ?_
  refine V_iconst (pc := 250) hG (dk dd_L_law_1 22 rfl) (v := 1) (by decide) ?_
  refine V_iadd (pc := 251) hG (dk dd_L_law_1 23 rfl) ?_
  refine V_sld (pc := 252) hG (dk dd_L_law_1 24 rfl) hSc (lrg hi hL 1 (by decide) (by decide)) ?_
  refine V_aload_n (pc := 253) hG (dk dd_L_law_1 25 rfl) rfl ?_
  refine V_iload_n (pc := 254) hG (dk dd_L_law_1 26 rfl) rfl ?_
  refine V_iconst (pc := 255) hG (dk dd_L_law_1 27 rfl) (v := 2) (by decide) ?_
  refine V_iadd (pc := 256) hG (dk dd_L_law_1 28 rfl) ?_
  refine V_sld (pc := 257) hG (dk dd_L_law_1 29 rfl) hSc (lrg hi hL 2 (by decide) (by decide)) ?_
  refine V_aload_n (pc := 258) hG (dk dd_L_law_1 30 rfl) rfl ?_
  refine V_iload_n (pc := 259) hG (dk dd_L_law_1 31 rfl) rfl ?_
  refine V_iconst (pc := 260) hG (dk dd_L_law_1 32 rfl) (v := 3) (by decide) ?_
  refine V_iadd (pc := 261) hG (dk dd_L_law_1 33 rfl) ?_
  refine V_sld (pc := 262) hG (dk dd_L_law_1 34 rfl) hSc (lrg hi hL 3 (by decide) (by decide)) ?_
  refine V_callVip (pc := 263) hG (dk dd_L_law_1 35 rfl) ml_L_18 mo_X9_set sh_0 rfl (o_set hI) (by decide) (by decide) rfl rfl rfl (fun x263 m263 p263 => ?_)
  refine V_aload_n (pc := 266) hG (dk dd_L_law_1 36 rfl) rfl ?_
  refine V_aload_n (pc := 267) hG (dk dd_L_law_1 37 rfl) rfl ?_
  refine V_iload_n (pc := 268) hG (dk dd_L_law_1 38 rfl) rfl ?_
  refine V_iconst (pc := 269) hG (dk dd_L_law_1 39 rfl) (v := 1) (by decide) ?_
  refine V_iadd (pc := 270) hG (dk dd_L_law_2 0 rfl) ?_
  refine V_sld (pc := 271) hG (dk dd_L_law_2 1 rfl) hSc (lrg hi hL 1 (by decide) (by decide)) ?_
  refine V_aload_n (pc := 272) hG (dk dd_L_law_2 2 rfl) rfl ?_
  refine V_iload_n (pc := 273) hG (dk dd_L_law_2 3 rfl) rfl ?_
  refine V_iconst (pc := 274) hG (dk dd_L_law_2 4 rfl) (v := 2) (by decide) ?_
  refine V_iadd (pc := 275) hG (dk dd_L_law_2 5 rfl) ?_
  refine V_sld (pc := 276) hG (dk dd_L_law_2 6 rfl) hSc (lrg hi hL 2 (by decide) (by decide)) ?_
  refine V_aload_n (pc := 277) hG (dk dd_L_law_2 7 rfl) rfl ?_
  refine V_iload_n (pc := 278) hG (dk dd_L_law_2 8 rfl) rfl ?_
  refine V_iconst (pc := 279) hG (dk dd_L_law_2 9 rfl) (v := 3) (by decide) ?_
  refine V_iadd (pc := 280) hG (dk dd_L_law_2 10 rfl) ?_
  refine V_sld (pc := 281) hG (dk dd_L_law_2 11 rfl) hSc (lrg hi hL 3 (by decide) (by decide)) ?_
  refine V_callVip (pc := 282) hG (dk dd_L_law_2 12 rfl) ml_L_21 mo_X10_set sh_67 rfl p263 (by decide) (by decide) rfl rfl rfl (fun x282 m282 p282 => ?_)
  refine V_icmp_eq (pc := 285) hG (dk dd_L_law_2 13 rfl) (tgt := 1428) (by decide) (fun h285 => ?_) (fun h285 => ?_)
  rotate_left
  rotate_left
  -- leaves: stop 1428; stop 288
  · exact hN _ p282.2
  · exact absurd p282.1.symm h285
theorem lc_2 {C : Cx} {L i : Nat} {xs : Nat → Int32} {μ : Mem} (hG : G C RL code 4 12) (hSc : Scr C L xs) (hL : L ≤ 512) (hi : i + 8 ≤ L) (hI : Inv μ) (hN : ∀ m2, Inv m2 → V C 1428 [(0, vR 87), (1, vR 0), (2, vR 67), (3, vI (nI i))] [] m2) : V C 290 [(0, vR 87), (1, vR 0), (2, vR 67), (3, vI (nI i))] [] μ := by
  refine V_aload_n (pc := 290) hG (dk dd_L_law_2 16 rfl) rfl ?_
  refine V_aload_n (pc := 291) hG (dk dd_L_law_2 17 rfl) rfl ?_
  refine V_iload_n (pc := 292) hG (dk dd_L_law_2 18 rfl) rfl ?_
  refine V_iconst (pc := 293) hG (dk dd_L_law_2 19 rfl) (v := 1) (by decide) ?_
  refine V_iadd (pc := 294) hG (dk dd_L_law_2 20 rfl) ?_
  refine V_sld (pc := 295) hG (dk dd_L_law_2 21 rfl) hSc (lrg hi hL 1 (by decide) (by decide)) ?_
  refine V_aload_n (pc := 296) hG (dk dd_L_law_2 22 rfl) rfl ?_
  refine V_iload_n (pc := 297) hG (dk dd_L_law_2 23 rfl) rfl ?_
  refine V_iconst (pc := 298) hG (dk dd_L_law_2 24 rfl) (v := 2) (by decide) ?_
  refine V_iadd (pc := 299) hG (dk dd_L_law_2 25 rfl) ?_
  refine V_sld (pc := 300) hG (dk dd_L_law_2 26 rfl) hSc (lrg hi hL 2 (by decide) (by decide)) ?_
  refine V_aload_n (pc := 301) hG (dk dd_L_law_2 27 rfl) rfl ?_
  refine V_iload_n (pc := 302) hG (dk dd_L_law_2 28 rfl) rfl ?_
  refine V_iconst (pc := 303) hG (dk dd_L_law_2 29 rfl) (v := 3) (by decide) ?_
  refine V_iadd (pc := 304) hG (dk dd_L_law_2 30 rfl) ?_
  refine V_sld (pc := 305) hG (dk dd_L_law_2 31 rfl) hSc (lrg hi hL 3 (by decide) (by decide)) ?_
  refine V_aload_n (pc := 306) hG (dk dd_L_law_2 32 rfl) rfl ?_
  refine V_iload_n (pc := 307) hG (dk dd_L_law_2 33 rfl) rfl ?_
  refine V_iconst (pc := 308) hG (dk dd_L_law_2 34 rfl) (v := 4) (by decide) ?_
  refine V_iadd (pc := 309) hG (dk dd_L_law_2 35 rfl) ?_
  refine V_sld (pc := 310) hG (dk dd_L_law_2 36 rfl) hSc (lrg hi hL 4 (by decide) (by decide)) ?_
  refine V_aload_n (pc := 311) hG (dk dd_L_law_2 37 rfl) rfl ?_
  refine V_iload_n (pc := 312) hG (dk dd_L_law_2 38 rfl) rfl ?_
  refine V_iconst (pc := 313) hG (dk dd_L_law_2 39 rfl) (v := 5) (by decide) ?_
  refine V_iadd (pc := 314) hG (dk dd_L_law_3 0 rfl) ?_
  refine V_sld (pc := 315) hG (dk dd_L_law_3 1 rfl) hSc (lrg hi hL 5 (by decide) (by decide)) ?_
  refine V_callVip (pc := 316) hG (dk dd_L_law_3 2 rfl) ml_L_22 mo_X9_copy sh_0 rfl (o_copy hI) (by decide) (by decide) rfl rfl rfl (fun x316 m316 p316 => ?_)
  refine V_aload_n (pc := 319) hG (dk dd_L_law_3 3 rfl) rfl ?_
  refine V_aload_n (pc := 320) hG (dk dd_L_law_3 4 rfl) rfl ?_
  refine V_iload_n (pc := 321) hG (dk dd_L_law_3 5 rfl) rfl ?_
  refine V_iconst (pc := 322) hG (dk dd_L_law_3 6 rfl) (v := 1) (by decide) ?_
  refine V_iadd (pc := 323) hG (dk dd_L_law_3 7 rfl) ?_
  refine V_sld (pc := 324) hG (dk dd_L_law_3 8 rfl) hSc (lrg hi hL 1 (by decide) (by decide)) ?_
  refine V_aload_n (pc := 325) hG (dk dd_L_law_3 9 rfl) rfl ?_
  refine V_iload_n (pc := 326) hG (dk dd_L_law_3 10 rfl) rfl ?_
  refine V_iconst (pc := 327) hG (dk dd_L_law_3 11 rfl) (v := 2) (by decide) ?_
  refine V_iadd (pc := 328) hG (dk dd_L_law_3 12 rfl) ?_
  refine V_sld (pc := 329) hG (dk dd_L_law_3 13 rfl) hSc (lrg hi hL 2 (by decide) (by decide)) ?_
  refine V_aload_n (pc := 330) hG (dk dd_L_law_3 14 rfl) rfl ?_
  refine V_iload_n (pc := 331) hG (dk dd_L_law_3 15 rfl) rfl ?_
  refine V_iconst (pc := 332) hG (dk dd_L_law_3 16 rfl) (v := 3) (by decide) ?_
  refine V_iadd (pc := 333) hG (dk dd_L_law_3 17 rfl) ?_
  refine V_sld (pc := 334) hG (dk dd_L_law_3 18 rfl) hSc (lrg hi hL 3 (by decide) (by decide)) ?_
  refine V_aload_n (pc := 335) hG (dk dd_L_law_3 19 rfl) rfl ?_
  refine V_iload_n (pc := 336) hG (dk dd_L_law_3 20 rfl) rfl ?_
  refine V_iconst (pc := 337) hG (dk dd_L_law_3 21 rfl) (v := 4) (by decide) ?_
  refine V_iadd (pc := 338) hG (dk dd_L_law_3 22 rfl) ?_
  refine V_sld (pc := 339) hG (dk dd_L_law_3 23 rfl) hSc (lrg hi hL 4 (by decide) (by decide)) ?_
  refine V_aload_n (pc := 340) hG (dk dd_L_law_3 24 rfl) rfl ?_
  refine V_iload_n (pc := 341) hG (dk dd_L_law_3 25 rfl) rfl ?_
  refine V_iconst (pc := 342) hG (dk dd_L_law_3 26 rfl) (v := 5) (by decide) ?_
  refine V_iadd (pc := 343) hG (dk dd_L_law_3 27 rfl) ?_
  refine V_sld (pc := 344) hG (dk dd_L_law_3 28 rfl) hSc (lrg hi hL 5 (by decide) (by decide)) ?_
  refine V_callVip (pc := 345) hG (dk dd_L_law_3 29 rfl) ml_L_26 mo_X10_copy sh_67 rfl p316 (by decide) (by decide) rfl rfl rfl (fun x345 m345 p345 => ?_)
  refine V_icmp_eq (pc := 348) hG (dk dd_L_law_3 30 rfl) (tgt := 1428) (by decide) (fun h348 => ?_) (fun h348 => ?_)
  rotate_left
  rotate_left
  -- leaves: stop 1428; stop 351
  · exact hN _ p345.2
  · exact absurd p345.1.symm h348
theorem lc_3 {C : Cx} {L i : Nat} {xs : Nat → Int32} {μ : Mem} (hG : G C RL code 4 12) (hSc : Scr C L xs) (hL : L ≤ 512) (hi : i + 8 ≤ L) (hI : Inv μ) (hN : ∀ m2, Inv m2 → V C 1428 [(0, vR 87), (1, vR 0), (2, vR 67), (3, vI (nI i))] [] m2) : V C 353 [(0, vR 87), (1, vR 0), (2, vR 67), (3, vI (nI i))] [] μ := by
  refine V_aload_n (pc := 353) hG (dk dd_L_law_3 33 rfl) rfl ?_
  refine V_aload_n (pc := 354) hG (dk dd_L_law_3 34 rfl) rfl ?_
  refine V_iload_n (pc := 355) hG (dk dd_L_law_3 35 rfl) rfl ?_
  refine V_iconst (pc := 356) hG (dk dd_L_law_3 36 rfl) (v := 1) (by decide) ?_
  refine V_iadd (pc := 357) hG (dk dd_L_law_3 37 rfl) ?_
  refine V_sld (pc := 358) hG (dk dd_L_law_3 38 rfl) hSc (lrg hi hL 1 (by decide) (by decide)) ?_
  refine V_callVip (pc := 359) hG (dk dd_L_law_3 39 rfl) ml_L_27 mo_X9_drop sh_0 rfl (o_drop hI) (by decide) (by decide) rfl rfl rfl (fun x359 m359 p359 => ?_)
  refine V_aload_n (pc := 362) hG (dk dd_L_law_4 0 rfl) rfl ?_
  refine V_aload_n (pc := 363) hG (dk dd_L_law_4 1 rfl) rfl ?_
  refine V_iload_n (pc := 364) hG (dk dd_L_law_4 2 rfl) rfl ?_
  refine V_iconst (pc := 365) hG (dk dd_L_law_4 3 rfl) (v := 1) (by decide) ?_
  refine V_iadd (pc := 366) hG (dk dd_L_law_4 4 rfl) ?_
  refine V_sld (pc := 367) hG (dk dd_L_law_4 5 rfl) hSc (lrg hi hL 1 (by decide) (by decide)) ?_
  refine V_callVip (pc := 368) hG (dk dd_L_law_4 6 rfl) ml_L_31 mo_X10_drop sh_67 rfl p359 (by decide) (by decide) rfl rfl rfl (fun x368 m368 p368 => ?_)
  refine V_icmp_eq (pc := 371) hG (dk dd_L_law_4 7 rfl) (tgt := 1428) (by decide) (fun h371 => ?_) (fun h371 => ?_)
  rotate_left
  rotate_left
  -- leaves: stop 1428; stop 374
  · exact hN _ p368.2
  · exact absurd p368.1.symm h371
theorem lc_4 {C : Cx} {L i : Nat} {xs : Nat → Int32} {μ : Mem} (hG : G C RL code 4 12) (hSc : Scr C L xs) (hL : L ≤ 512) (hi : i + 8 ≤ L) (hI : Inv μ) (hN : ∀ m2, Inv m2 → V C 1428 [(0, vR 87), (1, vR 0), (2, vR 67), (3, vI (nI i))] [] m2) : V C 376 [(0, vR 87), (1, vR 0), (2, vR 67), (3, vI (nI i))] [] μ := by
  refine V_aload_n (pc := 376) hG (dk dd_L_law_4 10 rfl) rfl ?_
  refine V_aload_n (pc := 377) hG (dk dd_L_law_4 11 rfl) rfl ?_
  refine V_iload_n (pc := 378) hG (dk dd_L_law_4 12 rfl) rfl ?_
  refine V_iconst (pc := 379) hG (dk dd_L_law_4 13 rfl) (v := 1) (by decide) ?_
  refine V_iadd (pc := 380) hG (dk dd_L_law_4 14 rfl) ?_
  refine V_sld (pc := 381) hG (dk dd_L_law_4 15 rfl) hSc (lrg hi hL 1 (by decide) (by decide)) ?_
  refine V_callVip (pc := 382) hG (dk dd_L_law_4 16 rfl) ml_L_32 mo_X9_feed sh_0 rfl (o_feed hI) (by decide) (by decide) rfl rfl rfl (fun x382 m382 p382 => ?_)
  refine V_aload_n (pc := 385) hG (dk dd_L_law_4 17 rfl) rfl ?_
  refine V_aload_n (pc := 386) hG (dk dd_L_law_4 18 rfl) rfl ?_
  refine V_iload_n (pc := 387) hG (dk dd_L_law_4 19 rfl) rfl ?_
  refine V_iconst (pc := 388) hG (dk dd_L_law_4 20 rfl) (v := 1) (by decide) ?_
  refine V_iadd (pc := 389) hG (dk dd_L_law_4 21 rfl) ?_
  refine V_sld (pc := 390) hG (dk dd_L_law_4 22 rfl) hSc (lrg hi hL 1 (by decide) (by decide)) ?_
  refine V_callVip (pc := 391) hG (dk dd_L_law_4 23 rfl) ml_L_35 mo_X10_feed sh_67 rfl p382 (by decide) (by decide) rfl rfl rfl (fun x391 m391 p391 => ?_)
  refine V_icmp_eq (pc := 394) hG (dk dd_L_law_4 24 rfl) (tgt := 1428) (by decide) (fun h394 => ?_) (fun h394 => ?_)
  rotate_left
  rotate_left
  -- leaves: stop 1428; stop 397
  · exact hN _ p391.2
  · exact absurd p391.1.symm h394
theorem lc_5 {C : Cx} {L i : Nat} {xs : Nat → Int32} {μ : Mem} (hG : G C RL code 4 12) (hSc : Scr C L xs) (hL : L ≤ 512) (hi : i + 8 ≤ L) (hI : Inv μ) (hN : ∀ m2, Inv m2 → V C 1428 [(0, vR 87), (1, vR 0), (2, vR 67), (3, vI (nI i))] [] m2) : V C 399 [(0, vR 87), (1, vR 0), (2, vR 67), (3, vI (nI i))] [] μ := by
  refine V_aload_n (pc := 399) hG (dk dd_L_law_4 27 rfl) rfl ?_
  refine V_callVip (pc := 400) hG (dk dd_L_law_4 28 rfl) ml_L_36 mo_X9_court sh_0 rfl (o_court hI) (by decide) (by decide) rfl rfl rfl (fun x400 m400 p400 => ?_)
  refine V_aload_n (pc := 403) hG (dk dd_L_law_4 29 rfl) rfl ?_
  refine V_callVip (pc := 404) hG (dk dd_L_law_4 30 rfl) ml_L_40 mo_X10_court sh_67 rfl p400 (by decide) (by decide) rfl rfl rfl (fun x404 m404 p404 => ?_)
  refine V_icmp_eq (pc := 407) hG (dk dd_L_law_4 31 rfl) (tgt := 1428) (by decide) (fun h407 => ?_) (fun h407 => ?_)
  rotate_left
  rotate_left
  -- leaves: stop 1428; stop 410
  · exact hN _ p404.2
  · exact absurd p404.1.symm h407
theorem lc_6 {C : Cx} {L i : Nat} {xs : Nat → Int32} {μ : Mem} (hG : G C RL code 4 12) (hSc : Scr C L xs) (hL : L ≤ 512) (hi : i + 8 ≤ L) (hI : Inv μ) (hN : ∀ m2, Inv m2 → V C 1428 [(0, vR 87), (1, vR 0), (2, vR 67), (3, vI (nI i))] [] m2) : V C 412 [(0, vR 87), (1, vR 0), (2, vR 67), (3, vI (nI i))] [] μ := by
  refine V_aload_n (pc := 412) hG (dk dd_L_law_4 34 rfl) rfl ?_
  refine V_callVip (pc := 413) hG (dk dd_L_law_4 35 rfl) ml_L_41 mo_X9_fault sh_0 rfl (o_fault hI) (by decide) (by decide) rfl rfl rfl (fun x413 m413 p413 => ?_)
  refine V_aload_n (pc := 416) hG (dk dd_L_law_4 36 rfl) rfl ?_
  refine V_callVip (pc := 417) hG (dk dd_L_law_4 37 rfl) ml_L_44 mo_X10_fault sh_67 rfl p413 (by decide) (by decide) rfl rfl rfl (fun x417 m417 p417 => ?_)
  refine V_icmp_eq (pc := 420) hG (dk dd_L_law_4 38 rfl) (tgt := 1428) (by decide) (fun h420 => ?_) (fun h420 => ?_)
  rotate_left
  rotate_left
  -- leaves: stop 1428; stop 423
  · exact hN _ p417.2
  · exact absurd p417.1.symm h420
theorem lc_7 {C : Cx} {L i : Nat} {xs : Nat → Int32} {μ : Mem} (hG : G C RL code 4 12) (hSc : Scr C L xs) (hL : L ≤ 512) (hi : i + 8 ≤ L) (hI : Inv μ) (hN : ∀ m2, Inv m2 → V C 1428 [(0, vR 87), (1, vR 0), (2, vR 67), (3, vI (nI i))] [] m2) : V C 425 [(0, vR 87), (1, vR 0), (2, vR 67), (3, vI (nI i))] [] μ := by
  refine V_aload_n (pc := 425) hG (dk dd_L_law_5 1 rfl) rfl ?_
  refine V_callVip (pc := 426) hG (dk dd_L_law_5 2 rfl) ml_L_45 mo_X9_undo sh_0 rfl (o_undo hI) (by decide) (by decide) rfl rfl rfl (fun x426 m426 p426 => ?_)
  refine V_aload_n (pc := 429) hG (dk dd_L_law_5 3 rfl) rfl ?_
  refine V_callVip (pc := 430) hG (dk dd_L_law_5 4 rfl) ml_L_48 mo_X10_undo sh_67 rfl p426 (by decide) (by decide) rfl rfl rfl (fun x430 m430 p430 => ?_)
  refine V_icmp_eq (pc := 433) hG (dk dd_L_law_5 5 rfl) (tgt := 1428) (by decide) (fun h433 => ?_) (fun h433 => ?_)
  rotate_left
  rotate_left
  -- leaves: stop 1428; stop 436
  · exact hN _ p430.2
  · exact absurd p430.1.symm h433
theorem lc_8 {C : Cx} {L i : Nat} {xs : Nat → Int32} {μ : Mem} (hG : G C RL code 4 12) (hSc : Scr C L xs) (hL : L ≤ 512) (hi : i + 8 ≤ L) (hI : Inv μ) (hN : ∀ m2, Inv m2 → V C 1428 [(0, vR 87), (1, vR 0), (2, vR 67), (3, vI (nI i))] [] m2) : V C 438 [(0, vR 87), (1, vR 0), (2, vR 67), (3, vI (nI i))] [] μ := by
  refine V_aload_n (pc := 438) hG (dk dd_L_law_5 8 rfl) rfl ?_
  refine V_aload_n (pc := 439) hG (dk dd_L_law_5 9 rfl) rfl ?_
  refine V_iload_n (pc := 440) hG (dk dd_L_law_5 10 rfl) rfl ?_
  refine V_iconst (pc := 441) hG (dk dd_L_law_5 11 rfl) (v := 1) (by decide) ?_
  refine V_iadd (pc := 442) hG (dk dd_L_law_5 12 rfl) ?_
  refine V_sld (pc := 443) hG (dk dd_L_law_5 13 rfl) hSc (lrg hi hL 1 (by decide) (by decide)) ?_
  refine V_callVip (pc := 444) hG (dk dd_L_law_5 14 rfl) ml_L_49 mo_X9_hum sh_0 rfl (o_hum hI) (by decide) (by decide) rfl rfl rfl (fun x444 m444 p444 => ?_)
  refine V_aload_n (pc := 447) hG (dk dd_L_law_5 15 rfl) rfl ?_
  refine V_aload_n (pc := 448) hG (dk dd_L_law_5 16 rfl) rfl ?_
  refine V_iload_n (pc := 449) hG (dk dd_L_law_5 17 rfl) rfl ?_
  refine V_iconst (pc := 450) hG (dk dd_L_law_5 18 rfl) (v := 1) (by decide) ?_
  refine V_iadd (pc := 451) hG (dk dd_L_law_5 19 rfl) ?_
  refine V_sld (pc := 452) hG (dk dd_L_law_5 20 rfl) hSc (lrg hi hL 1 (by decide) (by decide)) ?_
  refine V_callVip (pc := 453) hG (dk dd_L_law_5 21 rfl) ml_L_52 mo_X10_hum sh_67 rfl p444 (by decide) (by decide) rfl rfl rfl (fun x453 m453 p453 => ?_)
  refine V_icmp_eq (pc := 456) hG (dk dd_L_law_5 22 rfl) (tgt := 1428) (by decide) (fun h456 => ?_) (fun h456 => ?_)
  rotate_left
  rotate_left
  -- leaves: stop 1428; stop 459
  · exact hN _ p453.2
  · exact absurd p453.1.symm h456
theorem lc_9 {C : Cx} {L i : Nat} {xs : Nat → Int32} {μ : Mem} (hG : G C RL code 4 12) (hSc : Scr C L xs) (hL : L ≤ 512) (hi : i + 8 ≤ L) (hI : Inv μ) (hN : ∀ m2, Inv m2 → V C 1428 [(0, vR 87), (1, vR 0), (2, vR 67), (3, vI (nI i))] [] m2) : V C 461 [(0, vR 87), (1, vR 0), (2, vR 67), (3, vI (nI i))] [] μ := by
  refine V_aload_n (pc := 461) hG (dk dd_L_law_5 25 rfl) rfl ?_
  refine V_aload_n (pc := 462) hG (dk dd_L_law_5 26 rfl) rfl ?_
  refine V_iload_n (pc := 463) hG (dk dd_L_law_5 27 rfl) rfl ?_
  refine V_iconst (pc := 464) hG (dk dd_L_law_5 28 rfl) (v := 1) (by decide) ?_
  refine V_iadd (pc := 465) hG (dk dd_L_law_5 29 rfl) ?_
  refine V_sld (pc := 466) hG (dk dd_L_law_5 30 rfl) hSc (lrg hi hL 1 (by decide) (by decide)) ?_
  refine V_callVip (pc := 467) hG (dk dd_L_law_5 31 rfl) ml_L_53 mo_X9_hear sh_0 rfl (o_hear hI) (by decide) (by decide) rfl rfl rfl (fun x467 m467 p467 => ?_)
  refine V_aload_n (pc := 470) hG (dk dd_L_law_5 32 rfl) rfl ?_
  refine V_aload_n (pc := 471) hG (dk dd_L_law_5 33 rfl) rfl ?_
  refine V_iload_n (pc := 472) hG (dk dd_L_law_5 34 rfl) rfl ?_
  refine V_iconst (pc := 473) hG (dk dd_L_law_5 35 rfl) (v := 1) (by decide) ?_
  refine V_iadd (pc := 474) hG (dk dd_L_law_5 36 rfl) ?_
  refine V_sld (pc := 475) hG (dk dd_L_law_5 37 rfl) hSc (lrg hi hL 1 (by decide) (by decide)) ?_
  refine V_callVip (pc := 476) hG (dk dd_L_law_5 38 rfl) ml_L_56 mo_X10_hear sh_67 rfl p467 (by decide) (by decide) rfl rfl rfl (fun x476 m476 p476 => ?_)
  refine V_icmp_eq (pc := 479) hG (dk dd_L_law_5 39 rfl) (tgt := 1428) (by decide) (fun h479 => ?_) (fun h479 => ?_)
  rotate_left
  rotate_left
  -- leaves: stop 1428; stop 482
  · exact hN _ p476.2
  · exact absurd p476.1.symm h479
theorem lc_10 {C : Cx} {L i : Nat} {xs : Nat → Int32} {μ : Mem} (hG : G C RL code 4 12) (hSc : Scr C L xs) (hL : L ≤ 512) (hi : i + 8 ≤ L) (hI : Inv μ) (hN : ∀ m2, Inv m2 → V C 1428 [(0, vR 87), (1, vR 0), (2, vR 67), (3, vI (nI i))] [] m2) : V C 484 [(0, vR 87), (1, vR 0), (2, vR 67), (3, vI (nI i))] [] μ := by
  refine V_aload_n (pc := 484) hG (dk dd_L_law_6 2 rfl) rfl ?_
  refine V_aload_n (pc := 485) hG (dk dd_L_law_6 3 rfl) rfl ?_
  refine V_iload_n (pc := 486) hG (dk dd_L_law_6 4 rfl) rfl ?_
  refine V_iconst (pc := 487) hG (dk dd_L_law_6 5 rfl) (v := 1) (by decide) ?_
  refine V_iadd (pc := 488) hG (dk dd_L_law_6 6 rfl) ?_
  refine V_sld (pc := 489) hG (dk dd_L_law_6 7 rfl) hSc (lrg hi hL 1 (by decide) (by decide)) ?_
  refine V_callVip (pc := 490) hG (dk dd_L_law_6 8 rfl) ml_L_57 mo_X9_appeal sh_0 rfl (o_appeal hI) (by decide) (by decide) rfl rfl rfl (fun x490 m490 p490 => ?_)
  refine V_aload_n (pc := 493) hG (dk dd_L_law_6 9 rfl) rfl ?_
  refine V_aload_n (pc := 494) hG (dk dd_L_law_6 10 rfl) rfl ?_
  refine V_iload_n (pc := 495) hG (dk dd_L_law_6 11 rfl) rfl ?_
  refine V_iconst (pc := 496) hG (dk dd_L_law_6 12 rfl) (v := 1) (by decide) ?_
  refine V_iadd (pc := 497) hG (dk dd_L_law_6 13 rfl) ?_
  refine V_sld (pc := 498) hG (dk dd_L_law_6 14 rfl) hSc (lrg hi hL 1 (by decide) (by decide)) ?_
  refine V_callVip (pc := 499) hG (dk dd_L_law_6 15 rfl) ml_L_60 mo_X10_appeal sh_67 rfl p490 (by decide) (by decide) rfl rfl rfl (fun x499 m499 p499 => ?_)
  refine V_icmp_eq (pc := 502) hG (dk dd_L_law_6 16 rfl) (tgt := 1428) (by decide) (fun h502 => ?_) (fun h502 => ?_)
  rotate_left
  rotate_left
  -- leaves: stop 1428; stop 505
  · exact hN _ p499.2
  · exact absurd p499.1.symm h502
theorem lc_11 {C : Cx} {L i : Nat} {xs : Nat → Int32} {μ : Mem} (hG : G C RL code 4 12) (hSc : Scr C L xs) (hL : L ≤ 512) (hi : i + 8 ≤ L) (hI : Inv μ) (hN : ∀ m2, Inv m2 → V C 1428 [(0, vR 87), (1, vR 0), (2, vR 67), (3, vI (nI i))] [] m2) : V C 507 [(0, vR 87), (1, vR 0), (2, vR 67), (3, vI (nI i))] [] μ := by
  refine V_aload_n (pc := 507) hG (dk dd_L_law_6 19 rfl) rfl ?_
  refine V_aload_n (pc := 508) hG (dk dd_L_law_6 20 rfl) rfl ?_
  refine V_iload_n (pc := 509) hG (dk dd_L_law_6 21 rfl) rfl ?_
  refine V_iconst (pc := 510) hG (dk dd_L_law_6 22 rfl) (v := 1) (by decide) ?_
  refine V_iadd (pc := 511) hG (dk dd_L_law_6 23 rfl) ?_
  refine V_sld (pc := 512) hG (dk dd_L_law_6 24 rfl) hSc (lrg hi hL 1 (by decide) (by decide)) ?_
  refine V_callVip (pc := 513) hG (dk dd_L_law_6 25 rfl) ml_L_61 mo_X9_forget sh_0 rfl (o_forget hI) (by decide) (by decide) rfl rfl rfl (fun x513 m513 p513 => ?_)
  refine V_aload_n (pc := 516) hG (dk dd_L_law_6 26 rfl) rfl ?_
  refine V_aload_n (pc := 517) hG (dk dd_L_law_6 27 rfl) rfl ?_
  refine V_iload_n (pc := 518) hG (dk dd_L_law_6 28 rfl) rfl ?_
  refine V_iconst (pc := 519) hG (dk dd_L_law_6 29 rfl) (v := 1) (by decide) ?_
  refine V_iadd (pc := 520) hG (dk dd_L_law_6 30 rfl) ?_
  refine V_sld (pc := 521) hG (dk dd_L_law_6 31 rfl) hSc (lrg hi hL 1 (by decide) (by decide)) ?_
  refine V_callVip (pc := 522) hG (dk dd_L_law_6 32 rfl) ml_L_64 mo_X10_forget sh_67 rfl p513 (by decide) (by decide) rfl rfl rfl (fun x522 m522 p522 => ?_)
  refine V_icmp_eq (pc := 525) hG (dk dd_L_law_6 33 rfl) (tgt := 1428) (by decide) (fun h525 => ?_) (fun h525 => ?_)
  rotate_left
  rotate_left
  -- leaves: stop 1428; stop 528
  · exact hN _ p522.2
  · exact absurd p522.1.symm h525
theorem lc_12 {C : Cx} {L i : Nat} {xs : Nat → Int32} {μ : Mem} (hG : G C RL code 4 12) (hSc : Scr C L xs) (hL : L ≤ 512) (hi : i + 8 ≤ L) (hI : Inv μ) (hN : ∀ m2, Inv m2 → V C 1428 [(0, vR 87), (1, vR 0), (2, vR 67), (3, vI (nI i))] [] m2) : V C 530 [(0, vR 87), (1, vR 0), (2, vR 67), (3, vI (nI i))] [] μ := by
  refine V_aload_n (pc := 530) hG (dk dd_L_law_6 36 rfl) rfl ?_
  refine V_aload_n (pc := 531) hG (dk dd_L_law_6 37 rfl) rfl ?_
  refine V_iload_n (pc := 532) hG (dk dd_L_law_6 38 rfl) rfl ?_
  refine V_iconst (pc := 533) hG (dk dd_L_law_6 39 rfl) (v := 1) (by decide) ?_
  refine V_iadd (pc := 534) hG (dk dd_L_law_7 0 rfl) ?_
  refine V_sld (pc := 535) hG (dk dd_L_law_7 1 rfl) hSc (lrg hi hL 1 (by decide) (by decide)) ?_
  refine V_aload_n (pc := 536) hG (dk dd_L_law_7 2 rfl) rfl ?_
  refine V_iload_n (pc := 537) hG (dk dd_L_law_7 3 rfl) rfl ?_
  refine V_iconst (pc := 538) hG (dk dd_L_law_7 4 rfl) (v := 2) (by decide) ?_
  refine V_iadd (pc := 539) hG (dk dd_L_law_7 5 rfl) ?_
  refine V_sld (pc := 540) hG (dk dd_L_law_7 6 rfl) hSc (lrg hi hL 2 (by decide) (by decide)) ?_
  refine V_callVip (pc := 541) hG (dk dd_L_law_7 7 rfl) ml_L_65 mo_X9_learn sh_0 rfl (o_learn hI) (by decide) (by decide) rfl rfl rfl (fun x541 m541 p541 => ?_)
  refine V_aload_n (pc := 544) hG (dk dd_L_law_7 8 rfl) rfl ?_
  refine V_aload_n (pc := 545) hG (dk dd_L_law_7 9 rfl) rfl ?_
  refine V_iload_n (pc := 546) hG (dk dd_L_law_7 10 rfl) rfl ?_
  refine V_iconst (pc := 547) hG (dk dd_L_law_7 11 rfl) (v := 1) (by decide) ?_
  refine V_iadd (pc := 548) hG (dk dd_L_law_7 12 rfl) ?_
  refine V_sld (pc := 549) hG (dk dd_L_law_7 13 rfl) hSc (lrg hi hL 1 (by decide) (by decide)) ?_
  refine V_aload_n (pc := 550) hG (dk dd_L_law_7 14 rfl) rfl ?_
  refine V_iload_n (pc := 551) hG (dk dd_L_law_7 15 rfl) rfl ?_
  refine V_iconst (pc := 552) hG (dk dd_L_law_7 16 rfl) (v := 2) (by decide) ?_
  refine V_iadd (pc := 553) hG (dk dd_L_law_7 17 rfl) ?_
  refine V_sld (pc := 554) hG (dk dd_L_law_7 18 rfl) hSc (lrg hi hL 2 (by decide) (by decide)) ?_
  refine V_callVip (pc := 555) hG (dk dd_L_law_7 19 rfl) ml_L_69 mo_X10_learn sh_67 rfl p541 (by decide) (by decide) rfl rfl rfl (fun x555 m555 p555 => ?_)
  refine V_icmp_eq (pc := 558) hG (dk dd_L_law_7 20 rfl) (tgt := 1428) (by decide) (fun h558 => ?_) (fun h558 => ?_)
  rotate_left
  rotate_left
  -- leaves: stop 1428; stop 561
  · exact hN _ p555.2
  · exact absurd p555.1.symm h558
theorem lc_13 {C : Cx} {L i : Nat} {xs : Nat → Int32} {μ : Mem} (hG : G C RL code 4 12) (hSc : Scr C L xs) (hL : L ≤ 512) (hi : i + 8 ≤ L) (hI : Inv μ) (hN : ∀ m2, Inv m2 → V C 1428 [(0, vR 87), (1, vR 0), (2, vR 67), (3, vI (nI i))] [] m2) : V C 563 [(0, vR 87), (1, vR 0), (2, vR 67), (3, vI (nI i))] [] μ := by
  refine V_aload_n (pc := 563) hG (dk dd_L_law_7 23 rfl) rfl ?_
  refine V_aload_n (pc := 564) hG (dk dd_L_law_7 24 rfl) rfl ?_
  refine V_iload_n (pc := 565) hG (dk dd_L_law_7 25 rfl) rfl ?_
  refine V_iconst (pc := 566) hG (dk dd_L_law_7 26 rfl) (v := 1) (by decide) ?_
  refine V_iadd (pc := 567) hG (dk dd_L_law_7 27 rfl) ?_
  refine V_sld (pc := 568) hG (dk dd_L_law_7 28 rfl) hSc (lrg hi hL 1 (by decide) (by decide)) ?_
  refine V_aload_n (pc := 569) hG (dk dd_L_law_7 29 rfl) rfl ?_
  refine V_iload_n (pc := 570) hG (dk dd_L_law_7 30 rfl) rfl ?_
  refine V_iconst (pc := 571) hG (dk dd_L_law_7 31 rfl) (v := 2) (by decide) ?_
  refine V_iadd (pc := 572) hG (dk dd_L_law_7 32 rfl) ?_
  refine V_sld (pc := 573) hG (dk dd_L_law_7 33 rfl) hSc (lrg hi hL 2 (by decide) (by decide)) ?_
  refine V_callVip (pc := 574) hG (dk dd_L_law_7 34 rfl) ml_L_70 mo_X9_ofHum sh_0 rfl (o_ofHum hI) (by decide) (by decide) rfl rfl rfl (fun x574 m574 p574 => ?_)
  refine V_aload_n (pc := 577) hG (dk dd_L_law_7 35 rfl) rfl ?_
  refine V_aload_n (pc := 578) hG (dk dd_L_law_7 36 rfl) rfl ?_
  refine V_iload_n (pc := 579) hG (dk dd_L_law_7 37 rfl) rfl ?_
  refine V_iconst (pc := 580) hG (dk dd_L_law_7 38 rfl) (v := 1) (by decide) ?_
  refine V_iadd (pc := 581) hG (dk dd_L_law_7 39 rfl) ?_
  refine V_sld (pc := 582) hG (dk dd_L_law_8 0 rfl) hSc (lrg hi hL 1 (by decide) (by decide)) ?_
  refine V_aload_n (pc := 583) hG (dk dd_L_law_8 1 rfl) rfl ?_
  refine V_iload_n (pc := 584) hG (dk dd_L_law_8 2 rfl) rfl ?_
  refine V_iconst (pc := 585) hG (dk dd_L_law_8 3 rfl) (v := 2) (by decide) ?_
  refine V_iadd (pc := 586) hG (dk dd_L_law_8 4 rfl) ?_
  refine V_sld (pc := 587) hG (dk dd_L_law_8 5 rfl) hSc (lrg hi hL 2 (by decide) (by decide)) ?_
  refine V_callVip (pc := 588) hG (dk dd_L_law_8 6 rfl) ml_L_73 mo_X10_ofHum sh_67 rfl p574 (by decide) (by decide) rfl rfl rfl (fun x588 m588 p588 => ?_)
  refine V_icmp_eq (pc := 591) hG (dk dd_L_law_8 7 rfl) (tgt := 1428) (by decide) (fun h591 => ?_) (fun h591 => ?_)
  rotate_left
  rotate_left
  -- leaves: stop 1428; stop 594
  · exact hN _ p588.2
  · exact absurd p588.1.symm h591
theorem lc_14 {C : Cx} {L i : Nat} {xs : Nat → Int32} {μ : Mem} (hG : G C RL code 4 12) (hSc : Scr C L xs) (hL : L ≤ 512) (hi : i + 8 ≤ L) (hI : Inv μ) (hN : ∀ m2, Inv m2 → V C 1428 [(0, vR 87), (1, vR 0), (2, vR 67), (3, vI (nI i))] [] m2) : V C 596 [(0, vR 87), (1, vR 0), (2, vR 67), (3, vI (nI i))] [] μ := by
  refine V_aload_n (pc := 596) hG (dk dd_L_law_8 10 rfl) rfl ?_
  refine V_aload_n (pc := 597) hG (dk dd_L_law_8 11 rfl) rfl ?_
  refine V_iload_n (pc := 598) hG (dk dd_L_law_8 12 rfl) rfl ?_
  refine V_iconst (pc := 599) hG (dk dd_L_law_8 13 rfl) (v := 1) (by decide) ?_
  refine V_iadd (pc := 600) hG (dk dd_L_law_8 14 rfl) ?_
  refine V_sld (pc := 601) hG (dk dd_L_law_8 15 rfl) hSc (lrg hi hL 1 (by decide) (by decide)) ?_
  refine V_aload_n (pc := 602) hG (dk dd_L_law_8 16 rfl) rfl ?_
  refine V_iload_n (pc := 603) hG (dk dd_L_law_8 17 rfl) rfl ?_
  refine V_iconst (pc := 604) hG (dk dd_L_law_8 18 rfl) (v := 2) (by decide) ?_
  refine V_iadd (pc := 605) hG (dk dd_L_law_8 19 rfl) ?_
  refine V_sld (pc := 606) hG (dk dd_L_law_8 20 rfl) hSc (lrg hi hL 2 (by decide) (by decide)) ?_
  refine V_callVip (pc := 607) hG (dk dd_L_law_8 21 rfl) ml_L_74 mo_X9_ofCase sh_0 rfl (o_ofCase hI) (by decide) (by decide) rfl rfl rfl (fun x607 m607 p607 => ?_)
  refine V_aload_n (pc := 610) hG (dk dd_L_law_8 22 rfl) rfl ?_
  refine V_aload_n (pc := 611) hG (dk dd_L_law_8 23 rfl) rfl ?_
  refine V_iload_n (pc := 612) hG (dk dd_L_law_8 24 rfl) rfl ?_
  refine V_iconst (pc := 613) hG (dk dd_L_law_8 25 rfl) (v := 1) (by decide) ?_
  refine V_iadd (pc := 614) hG (dk dd_L_law_8 26 rfl) ?_
  refine V_sld (pc := 615) hG (dk dd_L_law_8 27 rfl) hSc (lrg hi hL 1 (by decide) (by decide)) ?_
  refine V_aload_n (pc := 616) hG (dk dd_L_law_8 28 rfl) rfl ?_
  refine V_iload_n (pc := 617) hG (dk dd_L_law_8 29 rfl) rfl ?_
  refine V_iconst (pc := 618) hG (dk dd_L_law_8 30 rfl) (v := 2) (by decide) ?_
  refine V_iadd (pc := 619) hG (dk dd_L_law_8 31 rfl) ?_
  refine V_sld (pc := 620) hG (dk dd_L_law_8 32 rfl) hSc (lrg hi hL 2 (by decide) (by decide)) ?_
  refine V_callVip (pc := 621) hG (dk dd_L_law_8 33 rfl) ml_L_77 mo_X10_ofCase sh_67 rfl p607 (by decide) (by decide) rfl rfl rfl (fun x621 m621 p621 => ?_)
  refine V_icmp_eq (pc := 624) hG (dk dd_L_law_8 34 rfl) (tgt := 1428) (by decide) (fun h624 => ?_) (fun h624 => ?_)
  rotate_left
  rotate_left
  -- leaves: stop 1428; stop 627
  · exact hN _ p621.2
  · exact absurd p621.1.symm h624
theorem lc_15 {C : Cx} {L i : Nat} {xs : Nat → Int32} {μ : Mem} (hG : G C RL code 4 12) (hSc : Scr C L xs) (hL : L ≤ 512) (hi : i + 8 ≤ L) (hI : Inv μ) (hN : ∀ m2, Inv m2 → V C 1428 [(0, vR 87), (1, vR 0), (2, vR 67), (3, vI (nI i))] [] m2) : V C 629 [(0, vR 87), (1, vR 0), (2, vR 67), (3, vI (nI i))] [] μ := by
  refine V_aload_n (pc := 629) hG (dk dd_L_law_8 37 rfl) rfl ?_
  refine V_aload_n (pc := 630) hG (dk dd_L_law_8 38 rfl) rfl ?_
  refine V_iload_n (pc := 631) hG (dk dd_L_law_8 39 rfl) rfl ?_
  refine V_iconst (pc := 632) hG (dk dd_L_law_9 0 rfl) (v := 1) (by decide) ?_
  refine V_iadd (pc := 633) hG (dk dd_L_law_9 1 rfl) ?_
  refine V_sld (pc := 634) hG (dk dd_L_law_9 2 rfl) hSc (lrg hi hL 1 (by decide) (by decide)) ?_
  refine V_callVip (pc := 635) hG (dk dd_L_law_9 3 rfl) ml_L_78 mo_X9_stand sh_0 rfl (o_stand hI) (by decide) (by decide) rfl rfl rfl (fun x635 m635 p635 => ?_)
  refine V_aload_n (pc := 638) hG (dk dd_L_law_9 4 rfl) rfl ?_
  refine V_aload_n (pc := 639) hG (dk dd_L_law_9 5 rfl) rfl ?_
  refine V_iload_n (pc := 640) hG (dk dd_L_law_9 6 rfl) rfl ?_
  refine V_iconst (pc := 641) hG (dk dd_L_law_9 7 rfl) (v := 1) (by decide) ?_
  refine V_iadd (pc := 642) hG (dk dd_L_law_9 8 rfl) ?_
  refine V_sld (pc := 643) hG (dk dd_L_law_9 9 rfl) hSc (lrg hi hL 1 (by decide) (by decide)) ?_
  refine V_callVip (pc := 644) hG (dk dd_L_law_9 10 rfl) ml_L_81 mo_X10_stand sh_67 rfl p635 (by decide) (by decide) rfl rfl rfl (fun x644 m644 p644 => ?_)
  refine V_icmp_eq (pc := 647) hG (dk dd_L_law_9 11 rfl) (tgt := 1428) (by decide) (fun h647 => ?_) (fun h647 => ?_)
  rotate_left
  rotate_left
  -- leaves: stop 1428; stop 650
  · exact hN _ p644.2
  · exact absurd p644.1.symm h647
theorem lc_16 {C : Cx} {L i : Nat} {xs : Nat → Int32} {μ : Mem} (hG : G C RL code 4 12) (hSc : Scr C L xs) (hL : L ≤ 512) (hi : i + 8 ≤ L) (hI : Inv μ) (hN : ∀ m2, Inv m2 → V C 1428 [(0, vR 87), (1, vR 0), (2, vR 67), (3, vI (nI i))] [] m2) : V C 652 [(0, vR 87), (1, vR 0), (2, vR 67), (3, vI (nI i))] [] μ := by
  refine V_aload_n (pc := 652) hG (dk dd_L_law_9 14 rfl) rfl ?_
  refine V_aload_n (pc := 653) hG (dk dd_L_law_9 15 rfl) rfl ?_
  refine V_iload_n (pc := 654) hG (dk dd_L_law_9 16 rfl) rfl ?_
  refine V_iconst (pc := 655) hG (dk dd_L_law_9 17 rfl) (v := 1) (by decide) ?_
  refine V_iadd (pc := 656) hG (dk dd_L_law_9 18 rfl) ?_
  refine V_sld (pc := 657) hG (dk dd_L_law_9 19 rfl) hSc (lrg hi hL 1 (by decide) (by decide)) ?_
  refine V_aload_n (pc := 658) hG (dk dd_L_law_9 20 rfl) rfl ?_
  refine V_iload_n (pc := 659) hG (dk dd_L_law_9 21 rfl) rfl ?_
  refine V_iconst (pc := 660) hG (dk dd_L_law_9 22 rfl) (v := 2) (by decide) ?_
  refine V_iadd (pc := 661) hG (dk dd_L_law_9 23 rfl) ?_
  refine V_sld (pc := 662) hG (dk dd_L_law_9 24 rfl) hSc (lrg hi hL 2 (by decide) (by decide)) ?_
  refine V_aload_n (pc := 663) hG (dk dd_L_law_9 25 rfl) rfl ?_
  refine V_iload_n (pc := 664) hG (dk dd_L_law_9 26 rfl) rfl ?_
  refine V_iconst (pc := 665) hG (dk dd_L_law_9 27 rfl) (v := 3) (by decide) ?_
  refine V_iadd (pc := 666) hG (dk dd_L_law_9 28 rfl) ?_
  refine V_sld (pc := 667) hG (dk dd_L_law_9 29 rfl) hSc (lrg hi hL 3 (by decide) (by decide)) ?_
  refine V_callVip (pc := 668) hG (dk dd_L_law_9 30 rfl) ml_L_82 mo_X9_sleep sh_0 rfl (o_sleep hI) (by decide) (by decide) rfl rfl rfl (fun x668 m668 p668 => ?_)
  refine V_aload_n (pc := 671) hG (dk dd_L_law_9 31 rfl) rfl ?_
  refine V_aload_n (pc := 672) hG (dk dd_L_law_9 32 rfl) rfl ?_
  refine V_iload_n (pc := 673) hG (dk dd_L_law_9 33 rfl) rfl ?_
  refine V_iconst (pc := 674) hG (dk dd_L_law_9 34 rfl) (v := 1) (by decide) ?_
  refine V_iadd (pc := 675) hG (dk dd_L_law_9 35 rfl) ?_
  refine V_sld (pc := 676) hG (dk dd_L_law_9 36 rfl) hSc (lrg hi hL 1 (by decide) (by decide)) ?_
  refine V_aload_n (pc := 677) hG (dk dd_L_law_9 37 rfl) rfl ?_
  refine V_iload_n (pc := 678) hG (dk dd_L_law_9 38 rfl) rfl ?_
  refine V_iconst (pc := 679) hG (dk dd_L_law_9 39 rfl) (v := 2) (by decide) ?_
  refine V_iadd (pc := 680) hG (dk dd_L_law_10 0 rfl) ?_
  refine V_sld (pc := 681) hG (dk dd_L_law_10 1 rfl) hSc (lrg hi hL 2 (by decide) (by decide)) ?_
  refine V_aload_n (pc := 682) hG (dk dd_L_law_10 2 rfl) rfl ?_
  refine V_iload_n (pc := 683) hG (dk dd_L_law_10 3 rfl) rfl ?_
  refine V_iconst (pc := 684) hG (dk dd_L_law_10 4 rfl) (v := 3) (by decide) ?_
  refine V_iadd (pc := 685) hG (dk dd_L_law_10 5 rfl) ?_
  refine V_sld (pc := 686) hG (dk dd_L_law_10 6 rfl) hSc (lrg hi hL 3 (by decide) (by decide)) ?_
  refine V_callVip (pc := 687) hG (dk dd_L_law_10 7 rfl) ml_L_85 mo_X10_sleep sh_67 rfl p668 (by decide) (by decide) rfl rfl rfl (fun x687 m687 p687 => ?_)
  refine V_icmp_eq (pc := 690) hG (dk dd_L_law_10 8 rfl) (tgt := 1428) (by decide) (fun h690 => ?_) (fun h690 => ?_)
  rotate_left
  rotate_left
  -- leaves: stop 1428; stop 693
  · exact hN _ p687.2
  · exact absurd p687.1.symm h690
theorem lc_17 {C : Cx} {L i : Nat} {xs : Nat → Int32} {μ : Mem} (hG : G C RL code 4 12) (hSc : Scr C L xs) (hL : L ≤ 512) (hi : i + 8 ≤ L) (hI : Inv μ) (hN : ∀ m2, Inv m2 → V C 1428 [(0, vR 87), (1, vR 0), (2, vR 67), (3, vI (nI i))] [] m2) : V C 695 [(0, vR 87), (1, vR 0), (2, vR 67), (3, vI (nI i))] [] μ := by
  refine V_aload_n (pc := 695) hG (dk dd_L_law_10 11 rfl) rfl ?_
  refine V_aload_n (pc := 696) hG (dk dd_L_law_10 12 rfl) rfl ?_
  refine V_iload_n (pc := 697) hG (dk dd_L_law_10 13 rfl) rfl ?_
  refine V_iconst (pc := 698) hG (dk dd_L_law_10 14 rfl) (v := 1) (by decide) ?_
  refine V_iadd (pc := 699) hG (dk dd_L_law_10 15 rfl) ?_
  refine V_sld (pc := 700) hG (dk dd_L_law_10 16 rfl) hSc (lrg hi hL 1 (by decide) (by decide)) ?_
  refine V_aload_n (pc := 701) hG (dk dd_L_law_10 17 rfl) rfl ?_
  refine V_iload_n (pc := 702) hG (dk dd_L_law_10 18 rfl) rfl ?_
  refine V_iconst (pc := 703) hG (dk dd_L_law_10 19 rfl) (v := 2) (by decide) ?_
  refine V_iadd (pc := 704) hG (dk dd_L_law_10 20 rfl) ?_
  refine V_sld (pc := 705) hG (dk dd_L_law_10 21 rfl) hSc (lrg hi hL 2 (by decide) (by decide)) ?_
  refine V_callVip (pc := 706) hG (dk dd_L_law_10 22 rfl) ml_L_86 mo_X9_dreams sh_0 rfl (o_dreams hI) (by decide) (by decide) rfl rfl rfl (fun x706 m706 p706 => ?_)
  refine V_aload_n (pc := 709) hG (dk dd_L_law_10 23 rfl) rfl ?_
  refine V_aload_n (pc := 710) hG (dk dd_L_law_10 24 rfl) rfl ?_
  refine V_iload_n (pc := 711) hG (dk dd_L_law_10 25 rfl) rfl ?_
  refine V_iconst (pc := 712) hG (dk dd_L_law_10 26 rfl) (v := 1) (by decide) ?_
  refine V_iadd (pc := 713) hG (dk dd_L_law_10 27 rfl) ?_
  refine V_sld (pc := 714) hG (dk dd_L_law_10 28 rfl) hSc (lrg hi hL 1 (by decide) (by decide)) ?_
  refine V_aload_n (pc := 715) hG (dk dd_L_law_10 29 rfl) rfl ?_
  refine V_iload_n (pc := 716) hG (dk dd_L_law_10 30 rfl) rfl ?_
  refine V_iconst (pc := 717) hG (dk dd_L_law_10 31 rfl) (v := 2) (by decide) ?_
  refine V_iadd (pc := 718) hG (dk dd_L_law_10 32 rfl) ?_
  refine V_sld (pc := 719) hG (dk dd_L_law_10 33 rfl) hSc (lrg hi hL 2 (by decide) (by decide)) ?_
  refine V_callVip (pc := 720) hG (dk dd_L_law_10 34 rfl) ml_L_89 mo_X10_dreams sh_67 rfl p706 (by decide) (by decide) rfl rfl rfl (fun x720 m720 p720 => ?_)
  refine V_icmp_eq (pc := 723) hG (dk dd_L_law_10 35 rfl) (tgt := 1428) (by decide) (fun h723 => ?_) (fun h723 => ?_)
  rotate_left
  rotate_left
  -- leaves: stop 1428; stop 726
  · exact hN _ p720.2
  · exact absurd p720.1.symm h723
theorem lc_18 {C : Cx} {L i : Nat} {xs : Nat → Int32} {μ : Mem} (hG : G C RL code 4 12) (hSc : Scr C L xs) (hL : L ≤ 512) (hi : i + 8 ≤ L) (hI : Inv μ) (hN : ∀ m2, Inv m2 → V C 1428 [(0, vR 87), (1, vR 0), (2, vR 67), (3, vI (nI i))] [] m2) : V C 728 [(0, vR 87), (1, vR 0), (2, vR 67), (3, vI (nI i))] [] μ := by
  refine V_aload_n (pc := 728) hG (dk dd_L_law_10 38 rfl) rfl ?_
  refine V_aload_n (pc := 729) hG (dk dd_L_law_10 39 rfl) rfl ?_
  refine V_iload_n (pc := 730) hG (dk dd_L_law_11 0 rfl) rfl ?_
  refine V_iconst (pc := 731) hG (dk dd_L_law_11 1 rfl) (v := 1) (by decide) ?_
  refine V_iadd (pc := 732) hG (dk dd_L_law_11 2 rfl) ?_
  refine V_sld (pc := 733) hG (dk dd_L_law_11 3 rfl) hSc (lrg hi hL 1 (by decide) (by decide)) ?_
  refine V_aload_n (pc := 734) hG (dk dd_L_law_11 4 rfl) rfl ?_
  refine V_iload_n (pc := 735) hG (dk dd_L_law_11 5 rfl) rfl ?_
  refine V_iconst (pc := 736) hG (dk dd_L_law_11 6 rfl) (v := 2) (by decide) ?_
  refine V_iadd (pc := 737) hG (dk dd_L_law_11 7 rfl) ?_
  refine V_sld (pc := 738) hG (dk dd_L_law_11 8 rfl) hSc (lrg hi hL 2 (by decide) (by decide)) ?_
  refine V_aload_n (pc := 739) hG (dk dd_L_law_11 9 rfl) rfl ?_
  refine V_iload_n (pc := 740) hG (dk dd_L_law_11 10 rfl) rfl ?_
  refine V_iconst (pc := 741) hG (dk dd_L_law_11 11 rfl) (v := 3) (by decide) ?_
  refine V_iadd (pc := 742) hG (dk dd_L_law_11 12 rfl) ?_
  refine V_sld (pc := 743) hG (dk dd_L_law_11 13 rfl) hSc (lrg hi hL 3 (by decide) (by decide)) ?_
  refine V_callVip (pc := 744) hG (dk dd_L_law_11 14 rfl) ml_L_90 mo_X9_least sh_0 rfl (o_least hI) (by decide) (by decide) rfl rfl rfl (fun x744 m744 p744 => ?_)
  refine V_aload_n (pc := 747) hG (dk dd_L_law_11 15 rfl) rfl ?_
  refine V_aload_n (pc := 748) hG (dk dd_L_law_11 16 rfl) rfl ?_
  refine V_iload_n (pc := 749) hG (dk dd_L_law_11 17 rfl) rfl ?_
  refine V_iconst (pc := 750) hG (dk dd_L_law_11 18 rfl) (v := 1) (by decide) ?_
  refine V_iadd (pc := 751) hG (dk dd_L_law_11 19 rfl) ?_
  refine V_sld (pc := 752) hG (dk dd_L_law_11 20 rfl) hSc (lrg hi hL 1 (by decide) (by decide)) ?_
  refine V_aload_n (pc := 753) hG (dk dd_L_law_11 21 rfl) rfl ?_
  refine V_iload_n (pc := 754) hG (dk dd_L_law_11 22 rfl) rfl ?_
  refine V_iconst (pc := 755) hG (dk dd_L_law_11 23 rfl) (v := 2) (by decide) ?_
  refine V_iadd (pc := 756) hG (dk dd_L_law_11 24 rfl) ?_
  refine V_sld (pc := 757) hG (dk dd_L_law_11 25 rfl) hSc (lrg hi hL 2 (by decide) (by decide)) ?_
  refine V_aload_n (pc := 758) hG (dk dd_L_law_11 26 rfl) rfl ?_
  refine V_iload_n (pc := 759) hG (dk dd_L_law_11 27 rfl) rfl ?_
  refine V_iconst (pc := 760) hG (dk dd_L_law_11 28 rfl) (v := 3) (by decide) ?_
  refine V_iadd (pc := 761) hG (dk dd_L_law_11 29 rfl) ?_
  refine V_sld (pc := 762) hG (dk dd_L_law_11 30 rfl) hSc (lrg hi hL 3 (by decide) (by decide)) ?_
  refine V_callVip (pc := 763) hG (dk dd_L_law_11 31 rfl) ml_L_93 mo_X10_least sh_67 rfl p744 (by decide) (by decide) rfl rfl rfl (fun x763 m763 p763 => ?_)
  refine V_icmp_eq (pc := 766) hG (dk dd_L_law_11 32 rfl) (tgt := 1428) (by decide) (fun h766 => ?_) (fun h766 => ?_)
  rotate_left
  rotate_left
  -- leaves: stop 1428; stop 769
  · exact hN _ p763.2
  · exact absurd p763.1.symm h766
theorem lc_19 {C : Cx} {L i : Nat} {xs : Nat → Int32} {μ : Mem} (hG : G C RL code 4 12) (hSc : Scr C L xs) (hL : L ≤ 512) (hi : i + 8 ≤ L) (hI : Inv μ) (hN : ∀ m2, Inv m2 → V C 1428 [(0, vR 87), (1, vR 0), (2, vR 67), (3, vI (nI i))] [] m2) : V C 771 [(0, vR 87), (1, vR 0), (2, vR 67), (3, vI (nI i))] [] μ := by
  refine V_aload_n (pc := 771) hG (dk dd_L_law_11 35 rfl) rfl ?_
  refine V_aload_n (pc := 772) hG (dk dd_L_law_11 36 rfl) rfl ?_
  refine V_iload_n (pc := 773) hG (dk dd_L_law_11 37 rfl) rfl ?_
  refine V_iconst (pc := 774) hG (dk dd_L_law_11 38 rfl) (v := 1) (by decide) ?_
  refine V_iadd (pc := 775) hG (dk dd_L_law_11 39 rfl) ?_
  refine V_sld (pc := 776) hG (dk dd_L_law_12 0 rfl) hSc (lrg hi hL 1 (by decide) (by decide)) ?_
  refine V_aload_n (pc := 777) hG (dk dd_L_law_12 1 rfl) rfl ?_
  refine V_iload_n (pc := 778) hG (dk dd_L_law_12 2 rfl) rfl ?_
  refine V_iconst (pc := 779) hG (dk dd_L_law_12 3 rfl) (v := 2) (by decide) ?_
  refine V_iadd (pc := 780) hG (dk dd_L_law_12 4 rfl) ?_
  refine V_sld (pc := 781) hG (dk dd_L_law_12 5 rfl) hSc (lrg hi hL 2 (by decide) (by decide)) ?_
  refine V_callVip (pc := 782) hG (dk dd_L_law_12 6 rfl) ml_L_94 mo_X9_save sh_0 rfl (o_save hI) (by decide) (by decide) rfl rfl rfl (fun x782 m782 p782 => ?_)
  refine V_aload_n (pc := 785) hG (dk dd_L_law_12 7 rfl) rfl ?_
  refine V_aload_n (pc := 786) hG (dk dd_L_law_12 8 rfl) rfl ?_
  refine V_iload_n (pc := 787) hG (dk dd_L_law_12 9 rfl) rfl ?_
  refine V_iconst (pc := 788) hG (dk dd_L_law_12 10 rfl) (v := 1) (by decide) ?_
  refine V_iadd (pc := 789) hG (dk dd_L_law_12 11 rfl) ?_
  refine V_sld (pc := 790) hG (dk dd_L_law_12 12 rfl) hSc (lrg hi hL 1 (by decide) (by decide)) ?_
  refine V_aload_n (pc := 791) hG (dk dd_L_law_12 13 rfl) rfl ?_
  refine V_iload_n (pc := 792) hG (dk dd_L_law_12 14 rfl) rfl ?_
  refine V_iconst (pc := 793) hG (dk dd_L_law_12 15 rfl) (v := 2) (by decide) ?_
  refine V_iadd (pc := 794) hG (dk dd_L_law_12 16 rfl) ?_
  refine V_sld (pc := 795) hG (dk dd_L_law_12 17 rfl) hSc (lrg hi hL 2 (by decide) (by decide)) ?_
  refine V_callVip (pc := 796) hG (dk dd_L_law_12 18 rfl) ml_L_97 mo_X10_save sh_67 rfl p782 (by decide) (by decide) rfl rfl rfl (fun x796 m796 p796 => ?_)
  refine V_icmp_eq (pc := 799) hG (dk dd_L_law_12 19 rfl) (tgt := 1428) (by decide) (fun h799 => ?_) (fun h799 => ?_)
  rotate_left
  rotate_left
  -- leaves: stop 1428; stop 802
  · exact hN _ p796.2
  · exact absurd p796.1.symm h799
theorem lc_20 {C : Cx} {L i : Nat} {xs : Nat → Int32} {μ : Mem} (hG : G C RL code 4 12) (hSc : Scr C L xs) (hL : L ≤ 512) (hi : i + 8 ≤ L) (hI : Inv μ) (hN : ∀ m2, Inv m2 → V C 1428 [(0, vR 87), (1, vR 0), (2, vR 67), (3, vI (nI i))] [] m2) : V C 804 [(0, vR 87), (1, vR 0), (2, vR 67), (3, vI (nI i))] [] μ := by
  refine V_aload_n (pc := 804) hG (dk dd_L_law_12 22 rfl) rfl ?_
  refine V_aload_n (pc := 805) hG (dk dd_L_law_12 23 rfl) rfl ?_
  refine V_iload_n (pc := 806) hG (dk dd_L_law_12 24 rfl) rfl ?_
  refine V_iconst (pc := 807) hG (dk dd_L_law_12 25 rfl) (v := 1) (by decide) ?_
  refine V_iadd (pc := 808) hG (dk dd_L_law_12 26 rfl) ?_
  refine V_sld (pc := 809) hG (dk dd_L_law_12 27 rfl) hSc (lrg hi hL 1 (by decide) (by decide)) ?_
  refine V_aload_n (pc := 810) hG (dk dd_L_law_12 28 rfl) rfl ?_
  refine V_iload_n (pc := 811) hG (dk dd_L_law_12 29 rfl) rfl ?_
  refine V_iconst (pc := 812) hG (dk dd_L_law_12 30 rfl) (v := 2) (by decide) ?_
  refine V_iadd (pc := 813) hG (dk dd_L_law_12 31 rfl) ?_
  refine V_sld (pc := 814) hG (dk dd_L_law_12 32 rfl) hSc (lrg hi hL 2 (by decide) (by decide)) ?_
  refine V_callVip (pc := 815) hG (dk dd_L_law_12 33 rfl) ml_L_98 mo_X9_can sh_0 rfl (o_can hI) (by decide) (by decide) rfl rfl rfl (fun x815 m815 p815 => ?_)
  refine V_aload_n (pc := 818) hG (dk dd_L_law_12 34 rfl) rfl ?_
  refine V_aload_n (pc := 819) hG (dk dd_L_law_12 35 rfl) rfl ?_
  refine V_iload_n (pc := 820) hG (dk dd_L_law_12 36 rfl) rfl ?_
  refine V_iconst (pc := 821) hG (dk dd_L_law_12 37 rfl) (v := 1) (by decide) ?_
  refine V_iadd (pc := 822) hG (dk dd_L_law_12 38 rfl) ?_
  refine V_sld (pc := 823) hG (dk dd_L_law_12 39 rfl) hSc (lrg hi hL 1 (by decide) (by decide)) ?_
  refine V_aload_n (pc := 824) hG (dk dd_L_law_13 0 rfl) rfl ?_
  refine V_iload_n (pc := 825) hG (dk dd_L_law_13 1 rfl) rfl ?_
  refine V_iconst (pc := 826) hG (dk dd_L_law_13 2 rfl) (v := 2) (by decide) ?_
  refine V_iadd (pc := 827) hG (dk dd_L_law_13 3 rfl) ?_
  refine V_sld (pc := 828) hG (dk dd_L_law_13 4 rfl) hSc (lrg hi hL 2 (by decide) (by decide)) ?_
  refine V_callVip (pc := 829) hG (dk dd_L_law_13 5 rfl) ml_L_101 mo_X10_can sh_67 rfl p815 (by decide) (by decide) rfl rfl rfl (fun x829 m829 p829 => ?_)
  refine V_icmp_eq (pc := 832) hG (dk dd_L_law_13 6 rfl) (tgt := 1428) (by decide) (fun h832 => ?_) (fun h832 => ?_)
  rotate_left
  rotate_left
  -- leaves: stop 1428; stop 835
  · exact hN _ p829.2
  · exact absurd p829.1.symm h832
theorem lc_21 {C : Cx} {L i : Nat} {xs : Nat → Int32} {μ : Mem} (hG : G C RL code 4 12) (hSc : Scr C L xs) (hL : L ≤ 512) (hi : i + 8 ≤ L) (hI : Inv μ) (hN : ∀ m2, Inv m2 → V C 1428 [(0, vR 87), (1, vR 0), (2, vR 67), (3, vI (nI i))] [] m2) : V C 837 [(0, vR 87), (1, vR 0), (2, vR 67), (3, vI (nI i))] [] μ := by
  refine V_aload_n (pc := 837) hG (dk dd_L_law_13 9 rfl) rfl ?_
  refine V_aload_n (pc := 838) hG (dk dd_L_law_13 10 rfl) rfl ?_
  refine V_iload_n (pc := 839) hG (dk dd_L_law_13 11 rfl) rfl ?_
  refine V_iconst (pc := 840) hG (dk dd_L_law_13 12 rfl) (v := 1) (by decide) ?_
  refine V_iadd (pc := 841) hG (dk dd_L_law_13 13 rfl) ?_
  refine V_sld (pc := 842) hG (dk dd_L_law_13 14 rfl) hSc (lrg hi hL 1 (by decide) (by decide)) ?_
  refine V_callVip (pc := 843) hG (dk dd_L_law_13 15 rfl) ml_L_102 mo_X9_order sh_0 rfl (o_order hI) (by decide) (by decide) rfl rfl rfl (fun x843 m843 p843 => ?_)
  refine V_aload_n (pc := 846) hG (dk dd_L_law_13 16 rfl) rfl ?_
  refine V_aload_n (pc := 847) hG (dk dd_L_law_13 17 rfl) rfl ?_
  refine V_iload_n (pc := 848) hG (dk dd_L_law_13 18 rfl) rfl ?_
  refine V_iconst (pc := 849) hG (dk dd_L_law_13 19 rfl) (v := 1) (by decide) ?_
  refine V_iadd (pc := 850) hG (dk dd_L_law_13 20 rfl) ?_
  refine V_sld (pc := 851) hG (dk dd_L_law_13 21 rfl) hSc (lrg hi hL 1 (by decide) (by decide)) ?_
  refine V_callVip (pc := 852) hG (dk dd_L_law_13 22 rfl) ml_L_105 mo_X10_order sh_67 rfl p843 (by decide) (by decide) rfl rfl rfl (fun x852 m852 p852 => ?_)
  refine V_icmp_eq (pc := 855) hG (dk dd_L_law_13 23 rfl) (tgt := 1428) (by decide) (fun h855 => ?_) (fun h855 => ?_)
  rotate_left
  rotate_left
  -- leaves: stop 1428; stop 858
  · exact hN _ p852.2
  · exact absurd p852.1.symm h855
theorem lc_22 {C : Cx} {L i : Nat} {xs : Nat → Int32} {μ : Mem} (hG : G C RL code 4 12) (hSc : Scr C L xs) (hL : L ≤ 512) (hi : i + 8 ≤ L) (hI : Inv μ) (hN : ∀ m2, Inv m2 → V C 1428 [(0, vR 87), (1, vR 0), (2, vR 67), (3, vI (nI i))] [] m2) : V C 860 [(0, vR 87), (1, vR 0), (2, vR 67), (3, vI (nI i))] [] μ := by
  refine V_aload_n (pc := 860) hG (dk dd_L_law_13 26 rfl) rfl ?_
  refine V_callVip (pc := 861) hG (dk dd_L_law_13 27 rfl) ml_L_106 mo_X9_first sh_0 rfl (o_first hI) (by decide) (by decide) rfl rfl rfl (fun x861 m861 p861 => ?_)
  refine V_aload_n (pc := 864) hG (dk dd_L_law_13 28 rfl) rfl ?_
  refine V_callVip (pc := 865) hG (dk dd_L_law_13 29 rfl) ml_L_109 mo_X10_first sh_67 rfl p861 (by decide) (by decide) rfl rfl rfl (fun x865 m865 p865 => ?_)
  refine V_icmp_eq (pc := 868) hG (dk dd_L_law_13 30 rfl) (tgt := 1428) (by decide) (fun h868 => ?_) (fun h868 => ?_)
  rotate_left
  rotate_left
  -- leaves: stop 1428; stop 871
  · exact hN _ p865.2
  · exact absurd p865.1.symm h868
theorem lc_23 {C : Cx} {L i : Nat} {xs : Nat → Int32} {μ : Mem} (hG : G C RL code 4 12) (hSc : Scr C L xs) (hL : L ≤ 512) (hi : i + 8 ≤ L) (hI : Inv μ) (hN : ∀ m2, Inv m2 → V C 1428 [(0, vR 87), (1, vR 0), (2, vR 67), (3, vI (nI i))] [] m2) : V C 873 [(0, vR 87), (1, vR 0), (2, vR 67), (3, vI (nI i))] [] μ := by
  refine V_aload_n (pc := 873) hG (dk dd_L_law_13 33 rfl) rfl ?_
  refine V_aload_n (pc := 874) hG (dk dd_L_law_13 34 rfl) rfl ?_
  refine V_iload_n (pc := 875) hG (dk dd_L_law_13 35 rfl) rfl ?_
  refine V_iconst (pc := 876) hG (dk dd_L_law_13 36 rfl) (v := 1) (by decide) ?_
  refine V_iadd (pc := 877) hG (dk dd_L_law_13 37 rfl) ?_
  refine V_sld (pc := 878) hG (dk dd_L_law_13 38 rfl) hSc (lrg hi hL 1 (by decide) (by decide)) ?_
  refine V_callVip (pc := 879) hG (dk dd_L_law_13 39 rfl) ml_L_110 mo_X9_clashes sh_0 rfl (o_clashes hI) (by decide) (by decide) rfl rfl rfl (fun x879 m879 p879 => ?_)
  refine V_aload_n (pc := 882) hG (dk dd_L_law_14 0 rfl) rfl ?_
  refine V_aload_n (pc := 883) hG (dk dd_L_law_14 1 rfl) rfl ?_
  refine V_iload_n (pc := 884) hG (dk dd_L_law_14 2 rfl) rfl ?_
  refine V_iconst (pc := 885) hG (dk dd_L_law_14 3 rfl) (v := 1) (by decide) ?_
  refine V_iadd (pc := 886) hG (dk dd_L_law_14 4 rfl) ?_
  refine V_sld (pc := 887) hG (dk dd_L_law_14 5 rfl) hSc (lrg hi hL 1 (by decide) (by decide)) ?_
  refine V_callVip (pc := 888) hG (dk dd_L_law_14 6 rfl) ml_L_113 mo_X10_clashes sh_67 rfl p879 (by decide) (by decide) rfl rfl rfl (fun x888 m888 p888 => ?_)
  refine V_icmp_eq (pc := 891) hG (dk dd_L_law_14 7 rfl) (tgt := 1428) (by decide) (fun h891 => ?_) (fun h891 => ?_)
  rotate_left
  rotate_left
  -- leaves: stop 1428; stop 894
  · exact hN _ p888.2
  · exact absurd p888.1.symm h891
theorem lc_24 {C : Cx} {L i : Nat} {xs : Nat → Int32} {μ : Mem} (hG : G C RL code 4 12) (hSc : Scr C L xs) (hL : L ≤ 512) (hi : i + 8 ≤ L) (hI : Inv μ) (hN : ∀ m2, Inv m2 → V C 1428 [(0, vR 87), (1, vR 0), (2, vR 67), (3, vI (nI i))] [] m2) : V C 896 [(0, vR 87), (1, vR 0), (2, vR 67), (3, vI (nI i))] [] μ := by
  refine V_aload_n (pc := 896) hG (dk dd_L_law_14 10 rfl) rfl ?_
  refine V_callVip (pc := 897) hG (dk dd_L_law_14 11 rfl) ml_L_114 mo_X9_deaf sh_0 rfl (o_deaf hI) (by decide) (by decide) rfl rfl rfl (fun x897 m897 p897 => ?_)
  refine V_aload_n (pc := 900) hG (dk dd_L_law_14 12 rfl) rfl ?_
  refine V_callVip (pc := 901) hG (dk dd_L_law_14 13 rfl) ml_L_117 mo_X10_deaf sh_67 rfl p897 (by decide) (by decide) rfl rfl rfl (fun x901 m901 p901 => ?_)
  refine V_icmp_eq (pc := 904) hG (dk dd_L_law_14 14 rfl) (tgt := 1428) (by decide) (fun h904 => ?_) (fun h904 => ?_)
  rotate_left
  rotate_left
  -- leaves: stop 1428; stop 907
  · exact hN _ p901.2
  · exact absurd p901.1.symm h904
theorem lc_25 {C : Cx} {L i : Nat} {xs : Nat → Int32} {μ : Mem} (hG : G C RL code 4 12) (hSc : Scr C L xs) (hL : L ≤ 512) (hi : i + 8 ≤ L) (hI : Inv μ) (hN : ∀ m2, Inv m2 → V C 1428 [(0, vR 87), (1, vR 0), (2, vR 67), (3, vI (nI i))] [] m2) : V C 909 [(0, vR 87), (1, vR 0), (2, vR 67), (3, vI (nI i))] [] μ := by
  refine V_aload_n (pc := 909) hG (dk dd_L_law_14 17 rfl) rfl ?_
  refine V_aload_n (pc := 910) hG (dk dd_L_law_14 18 rfl) rfl ?_
  refine V_iload_n (pc := 911) hG (dk dd_L_law_14 19 rfl) rfl ?_
  refine V_iconst (pc := 912) hG (dk dd_L_law_14 20 rfl) (v := 1) (by decide) ?_
  refine V_iadd (pc := 913) hG (dk dd_L_law_14 21 rfl) ?_
  refine V_sld (pc := 914) hG (dk dd_L_law_14 22 rfl) hSc (lrg hi hL 1 (by decide) (by decide)) ?_
  refine V_callVip (pc := 915) hG (dk dd_L_law_14 23 rfl) ml_L_118 mo_X9_same sh_0 rfl (o_same hI) (by decide) (by decide) rfl rfl rfl (fun x915 m915 p915 => ?_)
  refine V_aload_n (pc := 918) hG (dk dd_L_law_14 24 rfl) rfl ?_
  refine V_aload_n (pc := 919) hG (dk dd_L_law_14 25 rfl) rfl ?_
  refine V_iload_n (pc := 920) hG (dk dd_L_law_14 26 rfl) rfl ?_
  refine V_iconst (pc := 921) hG (dk dd_L_law_14 27 rfl) (v := 1) (by decide) ?_
  refine V_iadd (pc := 922) hG (dk dd_L_law_14 28 rfl) ?_
  refine V_sld (pc := 923) hG (dk dd_L_law_14 29 rfl) hSc (lrg hi hL 1 (by decide) (by decide)) ?_
  refine V_callVip (pc := 924) hG (dk dd_L_law_14 30 rfl) ml_L_121 mo_X10_same sh_67 rfl p915 (by decide) (by decide) rfl rfl rfl (fun x924 m924 p924 => ?_)
  refine V_icmp_eq (pc := 927) hG (dk dd_L_law_14 31 rfl) (tgt := 1428) (by decide) (fun h927 => ?_) (fun h927 => ?_)
  rotate_left
  rotate_left
  -- leaves: stop 1428; stop 930
  · exact hN _ p924.2
  · exact absurd p924.1.symm h927
theorem lc_26 {C : Cx} {L i : Nat} {xs : Nat → Int32} {μ : Mem} (hG : G C RL code 4 12) (hSc : Scr C L xs) (hL : L ≤ 512) (hi : i + 8 ≤ L) (hI : Inv μ) (hN : ∀ m2, Inv m2 → V C 1428 [(0, vR 87), (1, vR 0), (2, vR 67), (3, vI (nI i))] [] m2) : V C 932 [(0, vR 87), (1, vR 0), (2, vR 67), (3, vI (nI i))] [] μ := by
  refine V_aload_n (pc := 932) hG (dk dd_L_law_14 34 rfl) rfl ?_
  refine V_aload_n (pc := 933) hG (dk dd_L_law_14 35 rfl) rfl ?_
  refine V_iload_n (pc := 934) hG (dk dd_L_law_14 36 rfl) rfl ?_
  refine V_iconst (pc := 935) hG (dk dd_L_law_14 37 rfl) (v := 1) (by decide) ?_
  refine V_iadd (pc := 936) hG (dk dd_L_law_14 38 rfl) ?_
  refine V_sld (pc := 937) hG (dk dd_L_law_14 39 rfl) hSc (lrg hi hL 1 (by decide) (by decide)) ?_
  refine V_aload_n (pc := 938) hG (dk dd_L_law_15 0 rfl) rfl ?_
  refine V_iload_n (pc := 939) hG (dk dd_L_law_15 1 rfl) rfl ?_
  refine V_iconst (pc := 940) hG (dk dd_L_law_15 2 rfl) (v := 2) (by decide) ?_
  refine V_iadd (pc := 941) hG (dk dd_L_law_15 3 rfl) ?_
  refine V_sld (pc := 942) hG (dk dd_L_law_15 4 rfl) hSc (lrg hi hL 2 (by decide) (by decide)) ?_
  refine V_aload_n (pc := 943) hG (dk dd_L_law_15 5 rfl) rfl ?_
  refine V_iload_n (pc := 944) hG (dk dd_L_law_15 6 rfl) rfl ?_
  refine V_iconst (pc := 945) hG (dk dd_L_law_15 7 rfl) (v := 3) (by decide) ?_
  refine V_iadd (pc := 946) hG (dk dd_L_law_15 8 rfl) ?_
  refine V_sld (pc := 947) hG (dk dd_L_law_15 9 rfl) hSc (lrg hi hL 3 (by decide) (by decide)) ?_
  refine V_aload_n (pc := 948) hG (dk dd_L_law_15 10 rfl) rfl ?_
  refine V_iload_n (pc := 949) hG (dk dd_L_law_15 11 rfl) rfl ?_
  refine V_iconst (pc := 950) hG (dk dd_L_law_15 12 rfl) (v := 4) (by decide) ?_
  refine V_iadd (pc := 951) hG (dk dd_L_law_15 13 rfl) ?_
  refine V_sld (pc := 952) hG (dk dd_L_law_15 14 rfl) hSc (lrg hi hL 4 (by decide) (by decide)) ?_
  refine V_aload_n (pc := 953) hG (dk dd_L_law_15 15 rfl) rfl ?_
  refine V_iload_n (pc := 954) hG (dk dd_L_law_15 16 rfl) rfl ?_
  refine V_iconst (pc := 955) hG (dk dd_L_law_15 17 rfl) (v := 5) (by decide) ?_
  refine V_iadd (pc := 956) hG (dk dd_L_law_15 18 rfl) ?_
  refine V_sld (pc := 957) hG (dk dd_L_law_15 19 rfl) hSc (lrg hi hL 5 (by decide) (by decide)) ?_
  refine V_aload_n (pc := 958) hG (dk dd_L_law_15 20 rfl) rfl ?_
  refine V_iload_n (pc := 959) hG (dk dd_L_law_15 21 rfl) rfl ?_
  refine V_bipush (pc := 960) hG (dk dd_L_law_15 22 rfl) (v := 6) (by decide) ?_
  refine V_iadd (pc := 962) hG (dk dd_L_law_15 23 rfl) ?_
  refine V_sld (pc := 963) hG (dk dd_L_law_15 24 rfl) hSc (lrg hi hL 6 (by decide) (by decide)) ?_
  refine V_aload_n (pc := 964) hG (dk dd_L_law_15 25 rfl) rfl ?_
  refine V_iload_n (pc := 965) hG (dk dd_L_law_15 26 rfl) rfl ?_
  refine V_bipush (pc := 966) hG (dk dd_L_law_15 27 rfl) (v := 7) (by decide) ?_
  refine V_iadd (pc := 968) hG (dk dd_L_law_15 28 rfl) ?_
  refine V_sld (pc := 969) hG (dk dd_L_law_15 29 rfl) hSc (lrg hi hL 7 (by decide) (by decide)) ?_
  refine V_callVip (pc := 970) hG (dk dd_L_law_15 30 rfl) ml_L_122 mo_X9_who sh_0 rfl (o_who hI) (by decide) (by decide) rfl rfl rfl (fun x970 m970 p970 => ?_)
  refine V_aload_n (pc := 973) hG (dk dd_L_law_15 31 rfl) rfl ?_
  refine V_aload_n (pc := 974) hG (dk dd_L_law_15 32 rfl) rfl ?_
  refine V_iload_n (pc := 975) hG (dk dd_L_law_15 33 rfl) rfl ?_
  refine V_iconst (pc := 976) hG (dk dd_L_law_15 34 rfl) (v := 1) (by decide) ?_
  refine V_iadd (pc := 977) hG (dk dd_L_law_15 35 rfl) ?_
  refine V_sld (pc := 978) hG (dk dd_L_law_15 36 rfl) hSc (lrg hi hL 1 (by decide) (by decide)) ?_
  refine V_aload_n (pc := 979) hG (dk dd_L_law_15 37 rfl) rfl ?_
  refine V_iload_n (pc := 980) hG (dk dd_L_law_15 38 rfl) rfl ?_
  refine V_iconst (pc := 981) hG (dk dd_L_law_15 39 rfl) (v := 2) (by decide) ?_
  refine V_iadd (pc := 982) hG (dk dd_L_law_16 0 rfl) ?_
  refine V_sld (pc := 983) hG (dk dd_L_law_16 1 rfl) hSc (lrg hi hL 2 (by decide) (by decide)) ?_
  refine V_aload_n (pc := 984) hG (dk dd_L_law_16 2 rfl) rfl ?_
  refine V_iload_n (pc := 985) hG (dk dd_L_law_16 3 rfl) rfl ?_
  refine V_iconst (pc := 986) hG (dk dd_L_law_16 4 rfl) (v := 3) (by decide) ?_
  refine V_iadd (pc := 987) hG (dk dd_L_law_16 5 rfl) ?_
  refine V_sld (pc := 988) hG (dk dd_L_law_16 6 rfl) hSc (lrg hi hL 3 (by decide) (by decide)) ?_
  refine V_aload_n (pc := 989) hG (dk dd_L_law_16 7 rfl) rfl ?_
  refine V_iload_n (pc := 990) hG (dk dd_L_law_16 8 rfl) rfl ?_
  refine V_iconst (pc := 991) hG (dk dd_L_law_16 9 rfl) (v := 4) (by decide) ?_
  refine V_iadd (pc := 992) hG (dk dd_L_law_16 10 rfl) ?_
  refine V_sld (pc := 993) hG (dk dd_L_law_16 11 rfl) hSc (lrg hi hL 4 (by decide) (by decide)) ?_
  refine V_aload_n (pc := 994) hG (dk dd_L_law_16 12 rfl) rfl ?_
  refine V_iload_n (pc := 995) hG (dk dd_L_law_16 13 rfl) rfl ?_
  refine V_iconst (pc := 996) hG (dk dd_L_law_16 14 rfl) (v := 5) (by decide) ?_
  refine V_iadd (pc := 997) hG (dk dd_L_law_16 15 rfl) ?_
  refine V_sld (pc := 998) hG (dk dd_L_law_16 16 rfl) hSc (lrg hi hL 5 (by decide) (by decide)) ?_
  refine V_aload_n (pc := 999) hG (dk dd_L_law_16 17 rfl) rfl ?_
  refine V_iload_n (pc := 1000) hG (dk dd_L_law_16 18 rfl) rfl ?_
  refine V_bipush (pc := 1001) hG (dk dd_L_law_16 19 rfl) (v := 6) (by decide) ?_
  refine V_iadd (pc := 1003) hG (dk dd_L_law_16 20 rfl) ?_
  refine V_sld (pc := 1004) hG (dk dd_L_law_16 21 rfl) hSc (lrg hi hL 6 (by decide) (by decide)) ?_
  refine V_aload_n (pc := 1005) hG (dk dd_L_law_16 22 rfl) rfl ?_
  refine V_iload_n (pc := 1006) hG (dk dd_L_law_16 23 rfl) rfl ?_
  refine V_bipush (pc := 1007) hG (dk dd_L_law_16 24 rfl) (v := 7) (by decide) ?_
  refine V_iadd (pc := 1009) hG (dk dd_L_law_16 25 rfl) ?_
  refine V_sld (pc := 1010) hG (dk dd_L_law_16 26 rfl) hSc (lrg hi hL 7 (by decide) (by decide)) ?_
  refine V_callVip (pc := 1011) hG (dk dd_L_law_16 27 rfl) ml_L_126 mo_X10_who sh_67 rfl p970 (by decide) (by decide) rfl rfl rfl (fun x1011 m1011 p1011 => ?_)
  refine V_icmp_eq (pc := 1014) hG (dk dd_L_law_16 28 rfl) (tgt := 1428) (by decide) (fun h1014 => ?_) (fun h1014 => ?_)
  rotate_left
  rotate_left
  -- leaves: stop 1428; stop 1017
  · exact hN _ p1011.2
  · exact absurd p1011.1.symm h1014
theorem lc_27 {C : Cx} {L i : Nat} {xs : Nat → Int32} {μ : Mem} (hG : G C RL code 4 12) (hSc : Scr C L xs) (hL : L ≤ 512) (hi : i + 8 ≤ L) (hI : Inv μ) (hN : ∀ m2, Inv m2 → V C 1428 [(0, vR 87), (1, vR 0), (2, vR 67), (3, vI (nI i))] [] m2) : V C 1019 [(0, vR 87), (1, vR 0), (2, vR 67), (3, vI (nI i))] [] μ := by
  refine V_aload_n (pc := 1019) hG (dk dd_L_law_16 31 rfl) rfl ?_
  refine V_aload_n (pc := 1020) hG (dk dd_L_law_16 32 rfl) rfl ?_
  refine V_iload_n (pc := 1021) hG (dk dd_L_law_16 33 rfl) rfl ?_
  refine V_iconst (pc := 1022) hG (dk dd_L_law_16 34 rfl) (v := 1) (by decide) ?_
  refine V_iadd (pc := 1023) hG (dk dd_L_law_16 35 rfl) ?_
  refine V_sld (pc := 1024) hG (dk dd_L_law_16 36 rfl) hSc (lrg hi hL 1 (by decide) (by decide)) ?_
  refine V_aload_n (pc := 1025) hG (dk dd_L_law_16 37 rfl) rfl ?_
  refine V_iload_n (pc := 1026) hG (dk dd_L_law_16 38 rfl) rfl ?_
  refine V_iconst (pc := 1027) hG (dk dd_L_law_16 39 rfl) (v := 2) (by decide) ?_
  refine V_iadd (pc := 1028) hG (dk dd_L_law_17 0 rfl) ?_
  refine V_sld (pc := 1029) hG (dk dd_L_law_17 1 rfl) hSc (lrg hi hL 2 (by decide) (by decide)) ?_
  refine V_aload_n (pc := 1030) hG (dk dd_L_law_17 2 rfl) rfl ?_
  refine V_iload_n (pc := 1031) hG (dk dd_L_law_17 3 rfl) rfl ?_
  refine V_iconst (pc := 1032) hG (dk dd_L_law_17 4 rfl) (v := 3) (by decide) ?_
  refine V_iadd (pc := 1033) hG (dk dd_L_law_17 5 rfl) ?_
  refine V_sld (pc := 1034) hG (dk dd_L_law_17 6 rfl) hSc (lrg hi hL 3 (by decide) (by decide)) ?_
  refine V_aload_n (pc := 1035) hG (dk dd_L_law_17 7 rfl) rfl ?_
  refine V_iload_n (pc := 1036) hG (dk dd_L_law_17 8 rfl) rfl ?_
  refine V_iconst (pc := 1037) hG (dk dd_L_law_17 9 rfl) (v := 4) (by decide) ?_
  refine V_iadd (pc := 1038) hG (dk dd_L_law_17 10 rfl) ?_
  refine V_sld (pc := 1039) hG (dk dd_L_law_17 11 rfl) hSc (lrg hi hL 4 (by decide) (by decide)) ?_
  refine V_aload_n (pc := 1040) hG (dk dd_L_law_17 12 rfl) rfl ?_
  refine V_iload_n (pc := 1041) hG (dk dd_L_law_17 13 rfl) rfl ?_
  refine V_iconst (pc := 1042) hG (dk dd_L_law_17 14 rfl) (v := 5) (by decide) ?_
  refine V_iadd (pc := 1043) hG (dk dd_L_law_17 15 rfl) ?_
  refine V_sld (pc := 1044) hG (dk dd_L_law_17 16 rfl) hSc (lrg hi hL 5 (by decide) (by decide)) ?_
  refine V_aload_n (pc := 1045) hG (dk dd_L_law_17 17 rfl) rfl ?_
  refine V_iload_n (pc := 1046) hG (dk dd_L_law_17 18 rfl) rfl ?_
  refine V_bipush (pc := 1047) hG (dk dd_L_law_17 19 rfl) (v := 6) (by decide) ?_
  refine V_iadd (pc := 1049) hG (dk dd_L_law_17 20 rfl) ?_
  refine V_sld (pc := 1050) hG (dk dd_L_law_17 21 rfl) hSc (lrg hi hL 6 (by decide) (by decide)) ?_
  refine V_callVip (pc := 1051) hG (dk dd_L_law_17 22 rfl) ml_L_127 mo_X9_began sh_0 rfl (o_began hI) (by decide) (by decide) rfl rfl rfl (fun x1051 m1051 p1051 => ?_)
  refine V_aload_n (pc := 1054) hG (dk dd_L_law_17 23 rfl) rfl ?_
  refine V_aload_n (pc := 1055) hG (dk dd_L_law_17 24 rfl) rfl ?_
  refine V_iload_n (pc := 1056) hG (dk dd_L_law_17 25 rfl) rfl ?_
  refine V_iconst (pc := 1057) hG (dk dd_L_law_17 26 rfl) (v := 1) (by decide) ?_
  refine V_iadd (pc := 1058) hG (dk dd_L_law_17 27 rfl) ?_
  refine V_sld (pc := 1059) hG (dk dd_L_law_17 28 rfl) hSc (lrg hi hL 1 (by decide) (by decide)) ?_
  refine V_aload_n (pc := 1060) hG (dk dd_L_law_17 29 rfl) rfl ?_
  refine V_iload_n (pc := 1061) hG (dk dd_L_law_17 30 rfl) rfl ?_
  refine V_iconst (pc := 1062) hG (dk dd_L_law_17 31 rfl) (v := 2) (by decide) ?_
  refine V_iadd (pc := 1063) hG (dk dd_L_law_17 32 rfl) ?_
  refine V_sld (pc := 1064) hG (dk dd_L_law_17 33 rfl) hSc (lrg hi hL 2 (by decide) (by decide)) ?_
  refine V_aload_n (pc := 1065) hG (dk dd_L_law_17 34 rfl) rfl ?_
  refine V_iload_n (pc := 1066) hG (dk dd_L_law_17 35 rfl) rfl ?_
  refine V_iconst (pc := 1067) hG (dk dd_L_law_17 36 rfl) (v := 3) (by decide) ?_
  refine V_iadd (pc := 1068) hG (dk dd_L_law_17 37 rfl) ?_
  refine V_sld (pc := 1069) hG (dk dd_L_law_17 38 rfl) hSc (lrg hi hL 3 (by decide) (by decide)) ?_
  refine V_aload_n (pc := 1070) hG (dk dd_L_law_17 39 rfl) rfl ?_
  refine V_iload_n (pc := 1071) hG (dk dd_L_law_18 0 rfl) rfl ?_
  refine V_iconst (pc := 1072) hG (dk dd_L_law_18 1 rfl) (v := 4) (by decide) ?_
  refine V_iadd (pc := 1073) hG (dk dd_L_law_18 2 rfl) ?_
  refine V_sld (pc := 1074) hG (dk dd_L_law_18 3 rfl) hSc (lrg hi hL 4 (by decide) (by decide)) ?_
  refine V_aload_n (pc := 1075) hG (dk dd_L_law_18 4 rfl) rfl ?_
  refine V_iload_n (pc := 1076) hG (dk dd_L_law_18 5 rfl) rfl ?_
  refine V_iconst (pc := 1077) hG (dk dd_L_law_18 6 rfl) (v := 5) (by decide) ?_
  refine V_iadd (pc := 1078) hG (dk dd_L_law_18 7 rfl) ?_
  refine V_sld (pc := 1079) hG (dk dd_L_law_18 8 rfl) hSc (lrg hi hL 5 (by decide) (by decide)) ?_
  refine V_aload_n (pc := 1080) hG (dk dd_L_law_18 9 rfl) rfl ?_
  refine V_iload_n (pc := 1081) hG (dk dd_L_law_18 10 rfl) rfl ?_
  refine V_bipush (pc := 1082) hG (dk dd_L_law_18 11 rfl) (v := 6) (by decide) ?_
  refine V_iadd (pc := 1084) hG (dk dd_L_law_18 12 rfl) ?_
  refine V_sld (pc := 1085) hG (dk dd_L_law_18 13 rfl) hSc (lrg hi hL 6 (by decide) (by decide)) ?_
  refine V_callVip (pc := 1086) hG (dk dd_L_law_18 14 rfl) ml_L_131 mo_X10_began sh_67 rfl p1051 (by decide) (by decide) rfl rfl rfl (fun x1086 m1086 p1086 => ?_)
  refine V_icmp_eq (pc := 1089) hG (dk dd_L_law_18 15 rfl) (tgt := 1428) (by decide) (fun h1089 => ?_) (fun h1089 => ?_)
  rotate_left
  rotate_left
  -- leaves: stop 1428; stop 1092
  · exact hN _ p1086.2
  · exact absurd p1086.1.symm h1089
theorem lc_28 {C : Cx} {L i : Nat} {xs : Nat → Int32} {μ : Mem} (hG : G C RL code 4 12) (hSc : Scr C L xs) (hL : L ≤ 512) (hi : i + 8 ≤ L) (hI : Inv μ) (hN : ∀ m2, Inv m2 → V C 1428 [(0, vR 87), (1, vR 0), (2, vR 67), (3, vI (nI i))] [] m2) : V C 1094 [(0, vR 87), (1, vR 0), (2, vR 67), (3, vI (nI i))] [] μ := by
  refine V_aload_n (pc := 1094) hG (dk dd_L_law_18 18 rfl) rfl ?_
  refine V_aload_n (pc := 1095) hG (dk dd_L_law_18 19 rfl) rfl ?_
  refine V_iload_n (pc := 1096) hG (dk dd_L_law_18 20 rfl) rfl ?_
  refine V_iconst (pc := 1097) hG (dk dd_L_law_18 21 rfl) (v := 1) (by decide) ?_
  refine V_iadd (pc := 1098) hG (dk dd_L_law_18 22 rfl) ?_
  refine V_sld (pc := 1099) hG (dk dd_L_law_18 23 rfl) hSc (lrg hi hL 1 (by decide) (by decide)) ?_
  refine V_aload_n (pc := 1100) hG (dk dd_L_law_18 24 rfl) rfl ?_
  refine V_iload_n (pc := 1101) hG (dk dd_L_law_18 25 rfl) rfl ?_
  refine V_iconst (pc := 1102) hG (dk dd_L_law_18 26 rfl) (v := 2) (by decide) ?_
  refine V_iadd (pc := 1103) hG (dk dd_L_law_18 27 rfl) ?_
  refine V_sld (pc := 1104) hG (dk dd_L_law_18 28 rfl) hSc (lrg hi hL 2 (by decide) (by decide)) ?_
  refine V_aload_n (pc := 1105) hG (dk dd_L_law_18 29 rfl) rfl ?_
  refine V_iload_n (pc := 1106) hG (dk dd_L_law_18 30 rfl) rfl ?_
  refine V_iconst (pc := 1107) hG (dk dd_L_law_18 31 rfl) (v := 3) (by decide) ?_
  refine V_iadd (pc := 1108) hG (dk dd_L_law_18 32 rfl) ?_
  refine V_sld (pc := 1109) hG (dk dd_L_law_18 33 rfl) hSc (lrg hi hL 3 (by decide) (by decide)) ?_
  refine V_aload_n (pc := 1110) hG (dk dd_L_law_18 34 rfl) rfl ?_
  refine V_iload_n (pc := 1111) hG (dk dd_L_law_18 35 rfl) rfl ?_
  refine V_iconst (pc := 1112) hG (dk dd_L_law_18 36 rfl) (v := 4) (by decide) ?_
  refine V_iadd (pc := 1113) hG (dk dd_L_law_18 37 rfl) ?_
  refine V_sld (pc := 1114) hG (dk dd_L_law_18 38 rfl) hSc (lrg hi hL 4 (by decide) (by decide)) ?_
  refine V_callVip (pc := 1115) hG (dk dd_L_law_18 39 rfl) ml_L_132 mo_X9_snored sh_0 rfl (o_snored hI) (by decide) (by decide) rfl rfl rfl (fun x1115 m1115 p1115 => ?_)
  refine V_aload_n (pc := 1118) hG (dk dd_L_law_19 0 rfl) rfl ?_
  refine V_aload_n (pc := 1119) hG (dk dd_L_law_19 1 rfl) rfl ?_
  refine V_iload_n (pc := 1120) hG (dk dd_L_law_19 2 rfl) rfl ?_
  refine V_iconst (pc := 1121) hG (dk dd_L_law_19 3 rfl) (v := 1) (by decide) ?_
  refine V_iadd (pc := 1122) hG (dk dd_L_law_19 4 rfl) ?_
  refine V_sld (pc := 1123) hG (dk dd_L_law_19 5 rfl) hSc (lrg hi hL 1 (by decide) (by decide)) ?_
  refine V_aload_n (pc := 1124) hG (dk dd_L_law_19 6 rfl) rfl ?_
  refine V_iload_n (pc := 1125) hG (dk dd_L_law_19 7 rfl) rfl ?_
  refine V_iconst (pc := 1126) hG (dk dd_L_law_19 8 rfl) (v := 2) (by decide) ?_
  refine V_iadd (pc := 1127) hG (dk dd_L_law_19 9 rfl) ?_
  refine V_sld (pc := 1128) hG (dk dd_L_law_19 10 rfl) hSc (lrg hi hL 2 (by decide) (by decide)) ?_
  refine V_aload_n (pc := 1129) hG (dk dd_L_law_19 11 rfl) rfl ?_
  refine V_iload_n (pc := 1130) hG (dk dd_L_law_19 12 rfl) rfl ?_
  refine V_iconst (pc := 1131) hG (dk dd_L_law_19 13 rfl) (v := 3) (by decide) ?_
  refine V_iadd (pc := 1132) hG (dk dd_L_law_19 14 rfl) ?_
  refine V_sld (pc := 1133) hG (dk dd_L_law_19 15 rfl) hSc (lrg hi hL 3 (by decide) (by decide)) ?_
  refine V_aload_n (pc := 1134) hG (dk dd_L_law_19 16 rfl) rfl ?_
  refine V_iload_n (pc := 1135) hG (dk dd_L_law_19 17 rfl) rfl ?_
  refine V_iconst (pc := 1136) hG (dk dd_L_law_19 18 rfl) (v := 4) (by decide) ?_
  refine V_iadd (pc := 1137) hG (dk dd_L_law_19 19 rfl) ?_
  refine V_sld (pc := 1138) hG (dk dd_L_law_19 20 rfl) hSc (lrg hi hL 4 (by decide) (by decide)) ?_
  refine V_callVip (pc := 1139) hG (dk dd_L_law_19 21 rfl) ml_L_136 mo_X10_snored sh_67 rfl p1115 (by decide) (by decide) rfl rfl rfl (fun x1139 m1139 p1139 => ?_)
  refine V_icmp_eq (pc := 1142) hG (dk dd_L_law_19 22 rfl) (tgt := 1428) (by decide) (fun h1142 => ?_) (fun h1142 => ?_)
  rotate_left
  rotate_left
  -- leaves: stop 1428; stop 1145
  · exact hN _ p1139.2
  · exact absurd p1139.1.symm h1142
theorem lc_29 {C : Cx} {L i : Nat} {xs : Nat → Int32} {μ : Mem} (hG : G C RL code 4 12) (hSc : Scr C L xs) (hL : L ≤ 512) (hi : i + 8 ≤ L) (hI : Inv μ) (hN : ∀ m2, Inv m2 → V C 1428 [(0, vR 87), (1, vR 0), (2, vR 67), (3, vI (nI i))] [] m2) : V C 1147 [(0, vR 87), (1, vR 0), (2, vR 67), (3, vI (nI i))] [] μ := by
  refine V_aload_n (pc := 1147) hG (dk dd_L_law_19 25 rfl) rfl ?_
  refine V_aload_n (pc := 1148) hG (dk dd_L_law_19 26 rfl) rfl ?_
  refine V_iload_n (pc := 1149) hG (dk dd_L_law_19 27 rfl) rfl ?_
  refine V_iconst (pc := 1150) hG (dk dd_L_law_19 28 rfl) (v := 1) (by decide) ?_
  refine V_iadd (pc := 1151) hG (dk dd_L_law_19 29 rfl) ?_
  refine V_sld (pc := 1152) hG (dk dd_L_law_19 30 rfl) hSc (lrg hi hL 1 (by decide) (by decide)) ?_
  refine V_aload_n (pc := 1153) hG (dk dd_L_law_19 31 rfl) rfl ?_
  refine V_iload_n (pc := 1154) hG (dk dd_L_law_19 32 rfl) rfl ?_
  refine V_iconst (pc := 1155) hG (dk dd_L_law_19 33 rfl) (v := 2) (by decide) ?_
  refine V_iadd (pc := 1156) hG (dk dd_L_law_19 34 rfl) ?_
  refine V_sld (pc := 1157) hG (dk dd_L_law_19 35 rfl) hSc (lrg hi hL 2 (by decide) (by decide)) ?_
  refine V_aload_n (pc := 1158) hG (dk dd_L_law_19 36 rfl) rfl ?_
  refine V_iload_n (pc := 1159) hG (dk dd_L_law_19 37 rfl) rfl ?_
  refine V_iconst (pc := 1160) hG (dk dd_L_law_19 38 rfl) (v := 3) (by decide) ?_
  refine V_iadd (pc := 1161) hG (dk dd_L_law_19 39 rfl) ?_
  refine V_sld (pc := 1162) hG (dk dd_L_law_20 0 rfl) hSc (lrg hi hL 3 (by decide) (by decide)) ?_
  refine V_callVlp (pc := 1163) hG (dk dd_L_law_20 1 rfl) ml_L_137 mo_X9_gone sh_0 rfl (o_gone hI) (by decide) (by decide) rfl rfl rfl (fun x1163 m1163 p1163 => ?_)
  refine V_aload_n (pc := 1166) hG (dk dd_L_law_20 2 rfl) rfl ?_
  refine V_aload_n (pc := 1167) hG (dk dd_L_law_20 3 rfl) rfl ?_
  refine V_iload_n (pc := 1168) hG (dk dd_L_law_20 4 rfl) rfl ?_
  refine V_iconst (pc := 1169) hG (dk dd_L_law_20 5 rfl) (v := 1) (by decide) ?_
  refine V_iadd (pc := 1170) hG (dk dd_L_law_20 6 rfl) ?_
  refine V_sld (pc := 1171) hG (dk dd_L_law_20 7 rfl) hSc (lrg hi hL 1 (by decide) (by decide)) ?_
  refine V_aload_n (pc := 1172) hG (dk dd_L_law_20 8 rfl) rfl ?_
  refine V_iload_n (pc := 1173) hG (dk dd_L_law_20 9 rfl) rfl ?_
  refine V_iconst (pc := 1174) hG (dk dd_L_law_20 10 rfl) (v := 2) (by decide) ?_
  refine V_iadd (pc := 1175) hG (dk dd_L_law_20 11 rfl) ?_
  refine V_sld (pc := 1176) hG (dk dd_L_law_20 12 rfl) hSc (lrg hi hL 2 (by decide) (by decide)) ?_
  refine V_aload_n (pc := 1177) hG (dk dd_L_law_20 13 rfl) rfl ?_
  refine V_iload_n (pc := 1178) hG (dk dd_L_law_20 14 rfl) rfl ?_
  refine V_iconst (pc := 1179) hG (dk dd_L_law_20 15 rfl) (v := 3) (by decide) ?_
  refine V_iadd (pc := 1180) hG (dk dd_L_law_20 16 rfl) ?_
  refine V_sld (pc := 1181) hG (dk dd_L_law_20 17 rfl) hSc (lrg hi hL 3 (by decide) (by decide)) ?_
  refine V_callVlp (pc := 1182) hG (dk dd_L_law_20 18 rfl) ml_L_141 mo_X10_gone sh_67 rfl p1163 (by decide) (by decide) rfl rfl rfl (fun x1182 m1182 p1182 => ?_)
  refine V_lcmp (pc := 1185) hG (dk dd_L_law_20 19 rfl) ?_
  refine V_if_eq (pc := 1186) hG (dk dd_L_law_20 20 rfl) (tgt := 1428) (by decide) (fun h1186 => ?_) (fun h1186 => ?_)
  rotate_left
  rotate_left
  -- leaves: stop 1428; stop 1189
  · exact hN _ p1182.2
  · exact absurd (by rw [p1182.1]; unfold lg_cmp; simp) h1186
theorem lc_30 {C : Cx} {L i : Nat} {xs : Nat → Int32} {μ : Mem} (hG : G C RL code 4 12) (hSc : Scr C L xs) (hL : L ≤ 512) (hi : i + 8 ≤ L) (hI : Inv μ) (hN : ∀ m2, Inv m2 → V C 1428 [(0, vR 87), (1, vR 0), (2, vR 67), (3, vI (nI i))] [] m2) : V C 1191 [(0, vR 87), (1, vR 0), (2, vR 67), (3, vI (nI i))] [] μ := by
  refine V_aload_n (pc := 1191) hG (dk dd_L_law_20 23 rfl) rfl ?_
  refine V_aload_n (pc := 1192) hG (dk dd_L_law_20 24 rfl) rfl ?_
  refine V_iload_n (pc := 1193) hG (dk dd_L_law_20 25 rfl) rfl ?_
  refine V_iconst (pc := 1194) hG (dk dd_L_law_20 26 rfl) (v := 1) (by decide) ?_
  refine V_iadd (pc := 1195) hG (dk dd_L_law_20 27 rfl) ?_
  refine V_sld (pc := 1196) hG (dk dd_L_law_20 28 rfl) hSc (lrg hi hL 1 (by decide) (by decide)) ?_
  refine V_aload_n (pc := 1197) hG (dk dd_L_law_20 29 rfl) rfl ?_
  refine V_iload_n (pc := 1198) hG (dk dd_L_law_20 30 rfl) rfl ?_
  refine V_iconst (pc := 1199) hG (dk dd_L_law_20 31 rfl) (v := 2) (by decide) ?_
  refine V_iadd (pc := 1200) hG (dk dd_L_law_20 32 rfl) ?_
  refine V_sld (pc := 1201) hG (dk dd_L_law_20 33 rfl) hSc (lrg hi hL 2 (by decide) (by decide)) ?_
  refine V_aload_n (pc := 1202) hG (dk dd_L_law_20 34 rfl) rfl ?_
  refine V_iload_n (pc := 1203) hG (dk dd_L_law_20 35 rfl) rfl ?_
  refine V_iconst (pc := 1204) hG (dk dd_L_law_20 36 rfl) (v := 3) (by decide) ?_
  refine V_iadd (pc := 1205) hG (dk dd_L_law_20 37 rfl) ?_
  refine V_sld (pc := 1206) hG (dk dd_L_law_20 38 rfl) hSc (lrg hi hL 3 (by decide) (by decide)) ?_
  refine V_callVip (pc := 1207) hG (dk dd_L_law_20 39 rfl) ml_L_142 mo_X9_drawn sh_0 rfl (o_drawn hI) (by decide) (by decide) rfl rfl rfl (fun x1207 m1207 p1207 => ?_)
  refine V_aload_n (pc := 1210) hG (dk dd_L_law_21 0 rfl) rfl ?_
  refine V_aload_n (pc := 1211) hG (dk dd_L_law_21 1 rfl) rfl ?_
  refine V_iload_n (pc := 1212) hG (dk dd_L_law_21 2 rfl) rfl ?_
  refine V_iconst (pc := 1213) hG (dk dd_L_law_21 3 rfl) (v := 1) (by decide) ?_
  refine V_iadd (pc := 1214) hG (dk dd_L_law_21 4 rfl) ?_
  refine V_sld (pc := 1215) hG (dk dd_L_law_21 5 rfl) hSc (lrg hi hL 1 (by decide) (by decide)) ?_
  refine V_aload_n (pc := 1216) hG (dk dd_L_law_21 6 rfl) rfl ?_
  refine V_iload_n (pc := 1217) hG (dk dd_L_law_21 7 rfl) rfl ?_
  refine V_iconst (pc := 1218) hG (dk dd_L_law_21 8 rfl) (v := 2) (by decide) ?_
  refine V_iadd (pc := 1219) hG (dk dd_L_law_21 9 rfl) ?_
  refine V_sld (pc := 1220) hG (dk dd_L_law_21 10 rfl) hSc (lrg hi hL 2 (by decide) (by decide)) ?_
  refine V_aload_n (pc := 1221) hG (dk dd_L_law_21 11 rfl) rfl ?_
  refine V_iload_n (pc := 1222) hG (dk dd_L_law_21 12 rfl) rfl ?_
  refine V_iconst (pc := 1223) hG (dk dd_L_law_21 13 rfl) (v := 3) (by decide) ?_
  refine V_iadd (pc := 1224) hG (dk dd_L_law_21 14 rfl) ?_
  refine V_sld (pc := 1225) hG (dk dd_L_law_21 15 rfl) hSc (lrg hi hL 3 (by decide) (by decide)) ?_
  refine V_callVip (pc := 1226) hG (dk dd_L_law_21 16 rfl) ml_L_145 mo_X10_drawn sh_67 rfl p1207 (by decide) (by decide) rfl rfl rfl (fun x1226 m1226 p1226 => ?_)
  refine V_icmp_eq (pc := 1229) hG (dk dd_L_law_21 17 rfl) (tgt := 1428) (by decide) (fun h1229 => ?_) (fun h1229 => ?_)
  rotate_left
  rotate_left
  -- leaves: stop 1428; stop 1232
  · exact hN _ p1226.2
  · exact absurd p1226.1.symm h1229
theorem lc_31 {C : Cx} {L i : Nat} {xs : Nat → Int32} {μ : Mem} (hG : G C RL code 4 12) (hSc : Scr C L xs) (hL : L ≤ 512) (hi : i + 8 ≤ L) (hI : Inv μ) (hN : ∀ m2, Inv m2 → V C 1428 [(0, vR 87), (1, vR 0), (2, vR 67), (3, vI (nI i))] [] m2) : V C 1234 [(0, vR 87), (1, vR 0), (2, vR 67), (3, vI (nI i))] [] μ := by
  refine V_aload_n (pc := 1234) hG (dk dd_L_law_21 20 rfl) rfl ?_
  refine V_aload_n (pc := 1235) hG (dk dd_L_law_21 21 rfl) rfl ?_
  refine V_iload_n (pc := 1236) hG (dk dd_L_law_21 22 rfl) rfl ?_
  refine V_iconst (pc := 1237) hG (dk dd_L_law_21 23 rfl) (v := 1) (by decide) ?_
  refine V_iadd (pc := 1238) hG (dk dd_L_law_21 24 rfl) ?_
  refine V_sld (pc := 1239) hG (dk dd_L_law_21 25 rfl) hSc (lrg hi hL 1 (by decide) (by decide)) ?_
  refine V_callVip (pc := 1240) hG (dk dd_L_law_21 26 rfl) ml_L_146 mo_X9_image sh_0 rfl (o_image hI) (by decide) (by decide) rfl rfl rfl (fun x1240 m1240 p1240 => ?_)
  refine V_aload_n (pc := 1243) hG (dk dd_L_law_21 27 rfl) rfl ?_
  refine V_aload_n (pc := 1244) hG (dk dd_L_law_21 28 rfl) rfl ?_
  refine V_iload_n (pc := 1245) hG (dk dd_L_law_21 29 rfl) rfl ?_
  refine V_iconst (pc := 1246) hG (dk dd_L_law_21 30 rfl) (v := 1) (by decide) ?_
  refine V_iadd (pc := 1247) hG (dk dd_L_law_21 31 rfl) ?_
  refine V_sld (pc := 1248) hG (dk dd_L_law_21 32 rfl) hSc (lrg hi hL 1 (by decide) (by decide)) ?_
  refine V_callVip (pc := 1249) hG (dk dd_L_law_21 33 rfl) ml_L_149 mo_X10_image sh_67 rfl p1240 (by decide) (by decide) rfl rfl rfl (fun x1249 m1249 p1249 => ?_)
  refine V_icmp_eq (pc := 1252) hG (dk dd_L_law_21 34 rfl) (tgt := 1428) (by decide) (fun h1252 => ?_) (fun h1252 => ?_)
  rotate_left
  rotate_left
  -- leaves: stop 1428; stop 1255
  · exact hN _ p1249.2
  · exact absurd p1249.1.symm h1252
theorem lc_32 {C : Cx} {L i : Nat} {xs : Nat → Int32} {μ : Mem} (hG : G C RL code 4 12) (hSc : Scr C L xs) (hL : L ≤ 512) (hi : i + 8 ≤ L) (hI : Inv μ) (hN : ∀ m2, Inv m2 → V C 1428 [(0, vR 87), (1, vR 0), (2, vR 67), (3, vI (nI i))] [] m2) : V C 1257 [(0, vR 87), (1, vR 0), (2, vR 67), (3, vI (nI i))] [] μ := by
  refine V_aload_n (pc := 1257) hG (dk dd_L_law_21 37 rfl) rfl ?_
  refine V_aload_n (pc := 1258) hG (dk dd_L_law_21 38 rfl) rfl ?_
  refine V_iload_n (pc := 1259) hG (dk dd_L_law_21 39 rfl) rfl ?_
  refine V_iconst (pc := 1260) hG (dk dd_L_law_22 0 rfl) (v := 1) (by decide) ?_
  refine V_iadd (pc := 1261) hG (dk dd_L_law_22 1 rfl) ?_
  refine V_sld (pc := 1262) hG (dk dd_L_law_22 2 rfl) hSc (lrg hi hL 1 (by decide) (by decide)) ?_
  refine V_callVip (pc := 1263) hG (dk dd_L_law_22 3 rfl) ml_L_150 mo_X9_restore sh_0 rfl (o_restore hI) (by decide) (by decide) rfl rfl rfl (fun x1263 m1263 p1263 => ?_)
  refine V_aload_n (pc := 1266) hG (dk dd_L_law_22 4 rfl) rfl ?_
  refine V_aload_n (pc := 1267) hG (dk dd_L_law_22 5 rfl) rfl ?_
  refine V_iload_n (pc := 1268) hG (dk dd_L_law_22 6 rfl) rfl ?_
  refine V_iconst (pc := 1269) hG (dk dd_L_law_22 7 rfl) (v := 1) (by decide) ?_
  refine V_iadd (pc := 1270) hG (dk dd_L_law_22 8 rfl) ?_
  refine V_sld (pc := 1271) hG (dk dd_L_law_22 9 rfl) hSc (lrg hi hL 1 (by decide) (by decide)) ?_
  refine V_callVip (pc := 1272) hG (dk dd_L_law_22 10 rfl) ml_L_153 mo_X10_restore sh_67 rfl p1263 (by decide) (by decide) rfl rfl rfl (fun x1272 m1272 p1272 => ?_)
  refine V_icmp_eq (pc := 1275) hG (dk dd_L_law_22 11 rfl) (tgt := 1428) (by decide) (fun h1275 => ?_) (fun h1275 => ?_)
  rotate_left
  rotate_left
  -- leaves: stop 1428; stop 1278
  · exact hN _ p1272.2
  · exact absurd p1272.1.symm h1275
theorem lc_33 {C : Cx} {L i : Nat} {xs : Nat → Int32} {μ : Mem} (hG : G C RL code 4 12) (hSc : Scr C L xs) (hL : L ≤ 512) (hi : i + 8 ≤ L) (hI : Inv μ) (hN : ∀ m2, Inv m2 → V C 1428 [(0, vR 87), (1, vR 0), (2, vR 67), (3, vI (nI i))] [] m2) : V C 1280 [(0, vR 87), (1, vR 0), (2, vR 67), (3, vI (nI i))] [] μ := by
  refine V_aload_n (pc := 1280) hG (dk dd_L_law_22 14 rfl) rfl ?_
  refine V_aload_n (pc := 1281) hG (dk dd_L_law_22 15 rfl) rfl ?_
  refine V_iload_n (pc := 1282) hG (dk dd_L_law_22 16 rfl) rfl ?_
  refine V_iconst (pc := 1283) hG (dk dd_L_law_22 17 rfl) (v := 1) (by decide) ?_
  refine V_iadd (pc := 1284) hG (dk dd_L_law_22 18 rfl) ?_
  refine V_sld (pc := 1285) hG (dk dd_L_law_22 19 rfl) hSc (lrg hi hL 1 (by decide) (by decide)) ?_
  refine V_callVip (pc := 1286) hG (dk dd_L_law_22 20 rfl) ml_L_154 mo_X9_kind sh_0 rfl (o_kind hI) (by decide) (by decide) rfl rfl rfl (fun x1286 m1286 p1286 => ?_)
  refine V_aload_n (pc := 1289) hG (dk dd_L_law_22 21 rfl) rfl ?_
  refine V_aload_n (pc := 1290) hG (dk dd_L_law_22 22 rfl) rfl ?_
  refine V_iload_n (pc := 1291) hG (dk dd_L_law_22 23 rfl) rfl ?_
  refine V_iconst (pc := 1292) hG (dk dd_L_law_22 24 rfl) (v := 1) (by decide) ?_
  refine V_iadd (pc := 1293) hG (dk dd_L_law_22 25 rfl) ?_
  refine V_sld (pc := 1294) hG (dk dd_L_law_22 26 rfl) hSc (lrg hi hL 1 (by decide) (by decide)) ?_
  refine V_callVip (pc := 1295) hG (dk dd_L_law_22 27 rfl) ml_L_157 mo_X10_kind sh_67 rfl p1286 (by decide) (by decide) rfl rfl rfl (fun x1295 m1295 p1295 => ?_)
  refine V_icmp_eq (pc := 1298) hG (dk dd_L_law_22 28 rfl) (tgt := 1428) (by decide) (fun h1298 => ?_) (fun h1298 => ?_)
  rotate_left
  rotate_left
  -- leaves: stop 1428; stop 1301
  · exact hN _ p1295.2
  · exact absurd p1295.1.symm h1298
theorem lc_34 {C : Cx} {L i : Nat} {xs : Nat → Int32} {μ : Mem} (hG : G C RL code 4 12) (hSc : Scr C L xs) (hL : L ≤ 512) (hi : i + 8 ≤ L) (hI : Inv μ) (hN : ∀ m2, Inv m2 → V C 1428 [(0, vR 87), (1, vR 0), (2, vR 67), (3, vI (nI i))] [] m2) : V C 1303 [(0, vR 87), (1, vR 0), (2, vR 67), (3, vI (nI i))] [] μ := by
  refine V_aload_n (pc := 1303) hG (dk dd_L_law_22 31 rfl) rfl ?_
  refine V_aload_n (pc := 1304) hG (dk dd_L_law_22 32 rfl) rfl ?_
  refine V_iload_n (pc := 1305) hG (dk dd_L_law_22 33 rfl) rfl ?_
  refine V_iconst (pc := 1306) hG (dk dd_L_law_22 34 rfl) (v := 1) (by decide) ?_
  refine V_iadd (pc := 1307) hG (dk dd_L_law_22 35 rfl) ?_
  refine V_sld (pc := 1308) hG (dk dd_L_law_22 36 rfl) hSc (lrg hi hL 1 (by decide) (by decide)) ?_
  refine V_aload_n (pc := 1309) hG (dk dd_L_law_22 37 rfl) rfl ?_
  refine V_iload_n (pc := 1310) hG (dk dd_L_law_22 38 rfl) rfl ?_
  refine V_iconst (pc := 1311) hG (dk dd_L_law_22 39 rfl) (v := 2) (by decide) ?_
  refine V_iadd (pc := 1312) hG (dk dd_L_law_23 0 rfl) ?_
  refine V_sld (pc := 1313) hG (dk dd_L_law_23 1 rfl) hSc (lrg hi hL 2 (by decide) (by decide)) ?_
  refine V_callVip (pc := 1314) hG (dk dd_L_law_23 2 rfl) ml_L_158 mo_X9_as sh_0 rfl (o_as hI) (by decide) (by decide) rfl rfl rfl (fun x1314 m1314 p1314 => ?_)
  refine V_aload_n (pc := 1317) hG (dk dd_L_law_23 3 rfl) rfl ?_
  refine V_aload_n (pc := 1318) hG (dk dd_L_law_23 4 rfl) rfl ?_
  refine V_iload_n (pc := 1319) hG (dk dd_L_law_23 5 rfl) rfl ?_
  refine V_iconst (pc := 1320) hG (dk dd_L_law_23 6 rfl) (v := 1) (by decide) ?_
  refine V_iadd (pc := 1321) hG (dk dd_L_law_23 7 rfl) ?_
  refine V_sld (pc := 1322) hG (dk dd_L_law_23 8 rfl) hSc (lrg hi hL 1 (by decide) (by decide)) ?_
  refine V_aload_n (pc := 1323) hG (dk dd_L_law_23 9 rfl) rfl ?_
  refine V_iload_n (pc := 1324) hG (dk dd_L_law_23 10 rfl) rfl ?_
  refine V_iconst (pc := 1325) hG (dk dd_L_law_23 11 rfl) (v := 2) (by decide) ?_
  refine V_iadd (pc := 1326) hG (dk dd_L_law_23 12 rfl) ?_
  refine V_sld (pc := 1327) hG (dk dd_L_law_23 13 rfl) hSc (lrg hi hL 2 (by decide) (by decide)) ?_
  refine V_callVip (pc := 1328) hG (dk dd_L_law_23 14 rfl) ml_L_161 mo_X10_as sh_67 rfl p1314 (by decide) (by decide) rfl rfl rfl (fun x1328 m1328 p1328 => ?_)
  refine V_icmp_eq (pc := 1331) hG (dk dd_L_law_23 15 rfl) (tgt := 1428) (by decide) (fun h1331 => ?_) (fun h1331 => ?_)
  rotate_left
  rotate_left
  -- leaves: stop 1428; stop 1334
  · exact hN _ p1328.2
  · exact absurd p1328.1.symm h1331
theorem lc_35 {C : Cx} {L i : Nat} {xs : Nat → Int32} {μ : Mem} (hG : G C RL code 4 12) (hSc : Scr C L xs) (hL : L ≤ 512) (hi : i + 8 ≤ L) (hI : Inv μ) (hN : ∀ m2, Inv m2 → V C 1428 [(0, vR 87), (1, vR 0), (2, vR 67), (3, vI (nI i))] [] m2) : V C 1336 [(0, vR 87), (1, vR 0), (2, vR 67), (3, vI (nI i))] [] μ := by
  refine V_aload_n (pc := 1336) hG (dk dd_L_law_23 18 rfl) rfl ?_
  refine V_aload_n (pc := 1337) hG (dk dd_L_law_23 19 rfl) rfl ?_
  refine V_iload_n (pc := 1338) hG (dk dd_L_law_23 20 rfl) rfl ?_
  refine V_iconst (pc := 1339) hG (dk dd_L_law_23 21 rfl) (v := 1) (by decide) ?_
  refine V_iadd (pc := 1340) hG (dk dd_L_law_23 22 rfl) ?_
  refine V_sld (pc := 1341) hG (dk dd_L_law_23 23 rfl) hSc (lrg hi hL 1 (by decide) (by decide)) ?_
  refine V_aload_n (pc := 1342) hG (dk dd_L_law_23 24 rfl) rfl ?_
  refine V_iload_n (pc := 1343) hG (dk dd_L_law_23 25 rfl) rfl ?_
  refine V_iconst (pc := 1344) hG (dk dd_L_law_23 26 rfl) (v := 2) (by decide) ?_
  refine V_iadd (pc := 1345) hG (dk dd_L_law_23 27 rfl) ?_
  refine V_sld (pc := 1346) hG (dk dd_L_law_23 28 rfl) hSc (lrg hi hL 2 (by decide) (by decide)) ?_
  refine V_callVip (pc := 1347) hG (dk dd_L_law_23 29 rfl) ml_L_162 mo_X9_ask sh_0 rfl (o_ask hI) (by decide) (by decide) rfl rfl rfl (fun x1347 m1347 p1347 => ?_)
  refine V_aload_n (pc := 1350) hG (dk dd_L_law_23 30 rfl) rfl ?_
  refine V_aload_n (pc := 1351) hG (dk dd_L_law_23 31 rfl) rfl ?_
  refine V_iload_n (pc := 1352) hG (dk dd_L_law_23 32 rfl) rfl ?_
  refine V_iconst (pc := 1353) hG (dk dd_L_law_23 33 rfl) (v := 1) (by decide) ?_
  refine V_iadd (pc := 1354) hG (dk dd_L_law_23 34 rfl) ?_
  refine V_sld (pc := 1355) hG (dk dd_L_law_23 35 rfl) hSc (lrg hi hL 1 (by decide) (by decide)) ?_
  refine V_aload_n (pc := 1356) hG (dk dd_L_law_23 36 rfl) rfl ?_
  refine V_iload_n (pc := 1357) hG (dk dd_L_law_23 37 rfl) rfl ?_
  refine V_iconst (pc := 1358) hG (dk dd_L_law_23 38 rfl) (v := 2) (by decide) ?_
  refine V_iadd (pc := 1359) hG (dk dd_L_law_23 39 rfl) ?_
  refine V_sld (pc := 1360) hG (dk dd_L_law_24 0 rfl) hSc (lrg hi hL 2 (by decide) (by decide)) ?_
  refine V_callVip (pc := 1361) hG (dk dd_L_law_24 1 rfl) ml_L_165 mo_X10_ask sh_67 rfl p1347 (by decide) (by decide) rfl rfl rfl (fun x1361 m1361 p1361 => ?_)
  refine V_icmp_eq (pc := 1364) hG (dk dd_L_law_24 2 rfl) (tgt := 1428) (by decide) (fun h1364 => ?_) (fun h1364 => ?_)
  rotate_left
  rotate_left
  -- leaves: stop 1428; stop 1367
  · exact hN _ p1361.2
  · exact absurd p1361.1.symm h1364
theorem lc_36 {C : Cx} {L i : Nat} {xs : Nat → Int32} {μ : Mem} (hG : G C RL code 4 12) (hSc : Scr C L xs) (hL : L ≤ 512) (hi : i + 8 ≤ L) (hI : Inv μ) (hN : ∀ m2, Inv m2 → V C 1428 [(0, vR 87), (1, vR 0), (2, vR 67), (3, vI (nI i))] [] m2) : V C 1369 [(0, vR 87), (1, vR 0), (2, vR 67), (3, vI (nI i))] [] μ := by
  refine V_aload_n (pc := 1369) hG (dk dd_L_law_24 5 rfl) rfl ?_
  refine V_aload_n (pc := 1370) hG (dk dd_L_law_24 6 rfl) rfl ?_
  refine V_iload_n (pc := 1371) hG (dk dd_L_law_24 7 rfl) rfl ?_
  refine V_iconst (pc := 1372) hG (dk dd_L_law_24 8 rfl) (v := 1) (by decide) ?_
  refine V_iadd (pc := 1373) hG (dk dd_L_law_24 9 rfl) ?_
  refine V_sld (pc := 1374) hG (dk dd_L_law_24 10 rfl) hSc (lrg hi hL 1 (by decide) (by decide)) ?_
  refine V_callVip (pc := 1375) hG (dk dd_L_law_24 11 rfl) ml_L_166 mo_X9_trace sh_0 rfl (o_trace hI) (by decide) (by decide) rfl rfl rfl (fun x1375 m1375 p1375 => ?_)
  refine V_aload_n (pc := 1378) hG (dk dd_L_law_24 12 rfl) rfl ?_
  refine V_aload_n (pc := 1379) hG (dk dd_L_law_24 13 rfl) rfl ?_
  refine V_iload_n (pc := 1380) hG (dk dd_L_law_24 14 rfl) rfl ?_
  refine V_iconst (pc := 1381) hG (dk dd_L_law_24 15 rfl) (v := 1) (by decide) ?_
  refine V_iadd (pc := 1382) hG (dk dd_L_law_24 16 rfl) ?_
  refine V_sld (pc := 1383) hG (dk dd_L_law_24 17 rfl) hSc (lrg hi hL 1 (by decide) (by decide)) ?_
  refine V_callVip (pc := 1384) hG (dk dd_L_law_24 18 rfl) ml_L_169 mo_X10_trace sh_67 rfl p1375 (by decide) (by decide) rfl rfl rfl (fun x1384 m1384 p1384 => ?_)
  refine V_icmp_eq (pc := 1387) hG (dk dd_L_law_24 19 rfl) (tgt := 1428) (by decide) (fun h1387 => ?_) (fun h1387 => ?_)
  rotate_left
  rotate_left
  -- leaves: stop 1428; stop 1390
  · exact hN _ p1384.2
  · exact absurd p1384.1.symm h1387
theorem lc_37 {C : Cx} {L i : Nat} {xs : Nat → Int32} {μ : Mem} (hG : G C RL code 4 12) (hSc : Scr C L xs) (hL : L ≤ 512) (hi : i + 8 ≤ L) (hI : Inv μ) (hN : ∀ m2, Inv m2 → V C 1428 [(0, vR 87), (1, vR 0), (2, vR 67), (3, vI (nI i))] [] m2) : V C 1392 [(0, vR 87), (1, vR 0), (2, vR 67), (3, vI (nI i))] [] μ := by
  refine V_aload_n (pc := 1392) hG (dk dd_L_law_24 22 rfl) rfl ?_
  refine V_aload_n (pc := 1393) hG (dk dd_L_law_24 23 rfl) rfl ?_
  refine V_iload_n (pc := 1394) hG (dk dd_L_law_24 24 rfl) rfl ?_
  refine V_iconst (pc := 1395) hG (dk dd_L_law_24 25 rfl) (v := 1) (by decide) ?_
  refine V_iadd (pc := 1396) hG (dk dd_L_law_24 26 rfl) ?_
  refine V_sld (pc := 1397) hG (dk dd_L_law_24 27 rfl) hSc (lrg hi hL 1 (by decide) (by decide)) ?_
  refine V_callVip (pc := 1398) hG (dk dd_L_law_24 28 rfl) ml_L_170 mo_X9_count sh_0 rfl (o_count hI) (by decide) (by decide) rfl rfl rfl (fun x1398 m1398 p1398 => ?_)
  refine V_aload_n (pc := 1401) hG (dk dd_L_law_24 29 rfl) rfl ?_
  refine V_aload_n (pc := 1402) hG (dk dd_L_law_24 30 rfl) rfl ?_
  refine V_iload_n (pc := 1403) hG (dk dd_L_law_24 31 rfl) rfl ?_
  refine V_iconst (pc := 1404) hG (dk dd_L_law_24 32 rfl) (v := 1) (by decide) ?_
  refine V_iadd (pc := 1405) hG (dk dd_L_law_24 33 rfl) ?_
  refine V_sld (pc := 1406) hG (dk dd_L_law_24 34 rfl) hSc (lrg hi hL 1 (by decide) (by decide)) ?_
  refine V_callVip (pc := 1407) hG (dk dd_L_law_24 35 rfl) ml_L_173 mo_X10_count sh_67 rfl p1398 (by decide) (by decide) rfl rfl rfl (fun x1407 m1407 p1407 => ?_)
  refine V_icmp_eq (pc := 1410) hG (dk dd_L_law_24 36 rfl) (tgt := 1428) (by decide) (fun h1410 => ?_) (fun h1410 => ?_)
  rotate_left
  rotate_left
  -- leaves: stop 1428; stop 1413
  · exact hN _ p1407.2
  · exact absurd p1407.1.symm h1410
theorem lc_38 {C : Cx} {L i : Nat} {xs : Nat → Int32} {μ : Mem} (hG : G C RL code 4 12) (hSc : Scr C L xs) (hL : L ≤ 512) (hi : i + 8 ≤ L) (hI : Inv μ) (hN : ∀ m2, Inv m2 → V C 1428 [(0, vR 87), (1, vR 0), (2, vR 67), (3, vI (nI i))] [] m2) : V C 1415 [(0, vR 87), (1, vR 0), (2, vR 67), (3, vI (nI i))] [] μ := by
  refine V_aload_n (pc := 1415) hG (dk dd_L_law_24 39 rfl) rfl ?_
  refine V_callVip (pc := 1416) hG (dk dd_L_law_25 0 rfl) ml_L_174 mo_X9_status sh_0 rfl (o_status hI) (by decide) (by decide) rfl rfl rfl (fun x1416 m1416 p1416 => ?_)
  refine V_aload_n (pc := 1419) hG (dk dd_L_law_25 1 rfl) rfl ?_
  refine V_callVip (pc := 1420) hG (dk dd_L_law_25 2 rfl) ml_L_177 mo_X10_status sh_67 rfl p1416 (by decide) (by decide) rfl rfl rfl (fun x1420 m1420 p1420 => ?_)
  refine V_icmp_eq (pc := 1423) hG (dk dd_L_law_25 3 rfl) (tgt := 1428) (by decide) (fun h1423 => ?_) (fun h1423 => ?_)
  rotate_left
  rotate_left
  -- leaves: stop 1428; stop 1426
  · exact hN _ p1420.2
  · exact absurd p1420.1.symm h1423

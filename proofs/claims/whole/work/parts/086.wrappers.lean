/-! the law's own methods, case by case -/
theorem hf_begin : HF RL 83 yL_begin cL_begin 4 (some .int) [(0, 6, 9, 13)] 3 := ⟨(List.mem_of_getElem? (i := 73) (by decide +kernel)), (List.mem_of_getElem? (i := 70) (by decide +kernel)), (List.mem_of_getElem? (i := 71) (by decide +kernel)), ⟨by decide +kernel, by decide +kernel⟩, by decide +kernel⟩
theorem hf_deal : HF RL 94 yL_deal cL_deal 5 (some .int) [(0, 6, 9, 13), (0, 6, 13, 19)] 3 := ⟨(List.mem_of_getElem? (i := 119) (by decide +kernel)), (List.mem_of_getElem? (i := 117) (by decide +kernel)), (List.mem_of_getElem? (i := 118) (by decide +kernel)), ⟨by decide +kernel, by decide +kernel⟩, by decide +kernel⟩
theorem hf_spoil : HF RL 98 yL_spoil cL_spoil 6 (some .int) [(0, 12, 15, 13), (0, 12, 19, 19)] 5 := ⟨(List.mem_of_getElem? (i := 192) (by decide +kernel)), (List.mem_of_getElem? (i := 190) (by decide +kernel)), (List.mem_of_getElem? (i := 191) (by decide +kernel)), ⟨by decide +kernel, by decide +kernel⟩, by decide +kernel⟩
theorem hf_commitment : HF RL 102 yL_commitment cL_commitment 5 (some .int) [(0, 10, 13, 13), (0, 10, 17, 19)] 4 := ⟨(List.mem_of_getElem? (i := 222) (by decide +kernel)), (List.mem_of_getElem? (i := 220) (by decide +kernel)), (List.mem_of_getElem? (i := 221) (by decide +kernel)), ⟨by decide +kernel, by decide +kernel⟩, by decide +kernel⟩
theorem hf_share : HF RL 106 yL_share cL_share 5 (some .int) [(0, 10, 13, 13), (0, 10, 17, 19)] 4 := ⟨(List.mem_of_getElem? (i := 234) (by decide +kernel)), (List.mem_of_getElem? (i := 232) (by decide +kernel)), (List.mem_of_getElem? (i := 233) (by decide +kernel)), ⟨by decide +kernel, by decide +kernel⟩, by decide +kernel⟩
theorem hf_isRight : HF RL 109 yL_isRight cL_isRight 6 (some .int) [(0, 19, 22, 13), (0, 19, 26, 19)] 5 := ⟨(List.mem_of_getElem? (i := 246) (by decide +kernel)), (List.mem_of_getElem? (i := 244) (by decide +kernel)), (List.mem_of_getElem? (i := 245) (by decide +kernel)), ⟨by decide +kernel, by decide +kernel⟩, by decide +kernel⟩
theorem hf_complain : HF RL 112 yL_complain cL_complain 3 (some .int) [(0, 8, 11, 19)] 2 := ⟨(List.mem_of_getElem? (i := 261) (by decide +kernel)), (List.mem_of_getElem? (i := 259) (by decide +kernel)), (List.mem_of_getElem? (i := 260) (by decide +kernel)), ⟨by decide +kernel, by decide +kernel⟩, by decide +kernel⟩
theorem hf_answer : HF RL 116 yL_answer cL_answer 6 (some .int) [(0, 19, 22, 13), (0, 19, 26, 19)] 5 := ⟨(List.mem_of_getElem? (i := 293) (by decide +kernel)), (List.mem_of_getElem? (i := 291) (by decide +kernel)), (List.mem_of_getElem? (i := 292) (by decide +kernel)), ⟨by decide +kernel, by decide +kernel⟩, by decide +kernel⟩
theorem hf_close : HF RL 119 yL_close cL_close 5 (some .int) [(0, 9, 12, 19)] 3 := ⟨(List.mem_of_getElem? (i := 313) (by decide +kernel)), (List.mem_of_getElem? (i := 311) (by decide +kernel)), (List.mem_of_getElem? (i := 312) (by decide +kernel)), ⟨by decide +kernel, by decide +kernel⟩, by decide +kernel⟩
theorem hf_key : HF RL 123 yL_key cL_key 5 (some .int) [(0, 10, 13, 13), (0, 10, 17, 19)] 4 := ⟨(List.mem_of_getElem? (i := 363) (by decide +kernel)), (List.mem_of_getElem? (i := 361) (by decide +kernel)), (List.mem_of_getElem? (i := 362) (by decide +kernel)), ⟨by decide +kernel, by decide +kernel⟩, by decide +kernel⟩
theorem hf_round : HF RL 126 yL_round cL_round 4 (some .int) [(0, 9, 12, 19), (0, 9, 15, 13)] 3 := ⟨(List.mem_of_getElem? (i := 382) (by decide +kernel)), (List.mem_of_getElem? (i := 380) (by decide +kernel)), (List.mem_of_getElem? (i := 381) (by decide +kernel)), ⟨by decide +kernel, by decide +kernel⟩, by decide +kernel⟩
theorem hf_says : HF RL 130 yL_says cL_says 5 (some .int) [(0, 10, 13, 19), (0, 10, 17, 13)] 4 := ⟨(List.mem_of_getElem? (i := 405) (by decide +kernel)), (List.mem_of_getElem? (i := 403) (by decide +kernel)), (List.mem_of_getElem? (i := 404) (by decide +kernel)), ⟨by decide +kernel, by decide +kernel⟩, by decide +kernel⟩
theorem hf_offer : HF RL 133 yL_offer cL_offer 8 (some .int) [(0, 23, 26, 19), (0, 23, 30, 13)] 7 := ⟨(List.mem_of_getElem? (i := 447) (by decide +kernel)), (List.mem_of_getElem? (i := 445) (by decide +kernel)), (List.mem_of_getElem? (i := 446) (by decide +kernel)), ⟨by decide +kernel, by decide +kernel⟩, by decide +kernel⟩
theorem hf_value : HF RL 137 yL_value cL_value 4 (some .int) [(0, 9, 12, 19), (0, 9, 15, 13)] 3 := ⟨(List.mem_of_getElem? (i := 496) (by decide +kernel)), (List.mem_of_getElem? (i := 494) (by decide +kernel)), (List.mem_of_getElem? (i := 495) (by decide +kernel)), ⟨by decide +kernel, by decide +kernel⟩, by decide +kernel⟩
theorem hf_publish : HF RL 140 yL_publish cL_publish 3 (some .int) [(0, 8, 11, 19), (0, 8, 14, 67)] 2 := ⟨(List.mem_of_getElem? (i := 525) (by decide +kernel)), (List.mem_of_getElem? (i := 523) (by decide +kernel)), (List.mem_of_getElem? (i := 524) (by decide +kernel)), ⟨by decide +kernel, by decide +kernel⟩, by decide +kernel⟩
theorem hf_ended : HF RL 143 yL_ended cL_ended 4 (some .int) [(0, 8, 11, 13), (0, 8, 14, 19)] 3 := ⟨(List.mem_of_getElem? (i := 548) (by decide +kernel)), (List.mem_of_getElem? (i := 546) (by decide +kernel)), (List.mem_of_getElem? (i := 547) (by decide +kernel)), ⟨by decide +kernel, by decide +kernel⟩, by decide +kernel⟩
theorem hf_random : HF RL 146 yL_random cL_random 4 (some .int) [(0, 8, 11, 13), (0, 8, 14, 19)] 3 := ⟨(List.mem_of_getElem? (i := 564) (by decide +kernel)), (List.mem_of_getElem? (i := 562) (by decide +kernel)), (List.mem_of_getElem? (i := 563) (by decide +kernel)), ⟨by decide +kernel, by decide +kernel⟩, by decide +kernel⟩
theorem hf_about : HF RL 149 yL_about cL_about 4 (some .int) [(0, 9, 12, 13)] 3 := ⟨(List.mem_of_getElem? (i := 576) (by decide +kernel)), (List.mem_of_getElem? (i := 574) (by decide +kernel)), (List.mem_of_getElem? (i := 575) (by decide +kernel)), ⟨by decide +kernel, by decide +kernel⟩, by decide +kernel⟩
set_option maxHeartbeats 4000000 in
set_option maxRecDepth 100000 in
theorem h_begin (l : Launch) {D : va_G} {cI cJ cZ cD : ClassId} {ad : Nat → Nat} {w : Nat → va_E} {sz : Nat} {sa : Nat → Nat} (n t cl qu en kp : Nat) (dl ou cp ks pt : Nat → Nat) (co sh : Nat → Nat → Nat) (vs : Nat → Int64) (hok : OkS n t cl qu en kp dl ou cp ks pt co sh) (hRC : RC ad cI cJ cD w n t cl qu en kp dl ou cp ks pt co sh vs) (n2 t2 : Nat) (g1 : 1 ≤ n2) (g2 : n2 ≤ 16) (g3 : 1 ≤ t2) (g4 : t2 ≤ n2) : MH l yL_begin (.codeWith yL_begin cL_begin 4 (some .int) [(0, 6, 9, 13)]) ({ frames := 10, cells := 0, slots := 0, locals := 370 }) [.ref (ad 0), .int (nI n2), .int (nI t2)] D (tyL cI cJ cZ cD) ad 89 w sz sa (some (.int (nI 0))) (fun u => (∀ z, 76 < z → u z = w z) ∧ RC ad cI cJ cD u n2 t2 0 0 0 0 (fun _ => 0) (fun _ => 0) (fun _ => 0) ks pt co sh vs) 0 0 := by
  refine MH.of (by decide) (Nat.le_of_ble_eq_true rfl) ?_
  intro p e s m below meth c ls hC hr hlocks htab hl hw hT
  obtain ⟨hx, hb, hml, hown, hts⟩ := id hC
  have hA : ∀ q, s.heap.size ≤ q → xA ad 89 s.heap.size q := fun q h => Or.inr h
  have hl : lv_has ls 4 [(0, .ref (ad 0)), (1, .int (nI n2)), (2, .int (nI t2))] := hl
  obtain ⟨⟨wh, h0, hwh⟩, -⟩ := id hRC
  refine lv_aload_n hx hb dL_begin_0 rfl (lv_at hl 0 rfl) ?_
  refine lv_iload_n hx hb dL_begin_1 rfl (lv_at hl 1 rfl) ?_
  refine lv_iload_n hx hb dL_begin_2 rfl (lv_at hl 2 rfl) ?_
  refine x_callW0 (As := [.int (nI n2), .int (nI t2)]) (rest := []) hC vf_L_7 hw hA (by decide) h0 rfl rfl (c_begin l n t cl qu en kp dl ou cp ks pt co sh vs hok hRC n2 t2 g1 g2 g3 g4) ⟨rfl, rfl, Nat.le_of_ble_eq_true rfl, Nat.le_of_ble_eq_true rfl⟩ hl.1 (Nat.le_of_ble_eq_true rfl) dL_begin_3 ⟨Nat.zero_le _, Nat.zero_le _⟩ rfl (fun w_1 H locs hu9 hw => ?_)
  refine lv_goto (tgt := 12) hx hb dL_begin_6 (by decide) ?_
  refine lv_iconst (v := nI 0) hx hb dL_begin_12 (by decide) ?_
  exact x_hret hx hb hr hlocks hw hu9 dL_begin_13
set_option maxHeartbeats 4000000 in
set_option maxRecDepth 100000 in
theorem h_beginT (l : Launch) (hl0 : l.stackTraces = false) {D : va_G} {cI cJ cZ cD : ClassId} {ad : Nat → Nat} {w : Nat → va_E} {sz : Nat} {sa : Nat → Nat} (n t cl qu en kp : Nat) (dl ou cp ks pt : Nat → Nat) (co sh : Nat → Nat → Nat) (vs : Nat → Int64) (hok : OkS n t cl qu en kp dl ou cp ks pt co sh) (hRC : RC ad cI cJ cD w n t cl qu en kp dl ou cp ks pt co sh vs) (x y : Int32) (hbad : ¬ bgOk x y) : MH l yL_begin (.codeWith yL_begin cL_begin 4 (some .int) [(0, 6, 9, 13)]) ({ frames := 10, cells := 1, slots := 6, locals := 370 }) [.ref (ad 0), .int x, .int y] D (tyL cI cJ cZ cD) ad 89 w sz sa (some (.int (nI 1))) (fun u => u = w) 1 6 := by
  refine MH.of (by decide) (Nat.le_of_ble_eq_true rfl) ?_
  intro p e s m below meth c ls hC hr hlocks htab hl hw hT
  obtain ⟨hx, hb, hml, hown, hts⟩ := id hC
  have hA : ∀ q, s.heap.size ≤ q → xA ad 89 s.heap.size q := fun q h => Or.inr h
  have hl : lv_has ls 4 [(0, .ref (ad 0)), (1, .int x), (2, .int y)] := hl
  obtain ⟨⟨wh, h0, hwh⟩, -⟩ := id hRC
  refine lv_aload_n hx hb dL_begin_0 rfl (lv_at hl 0 rfl) ?_
  refine lv_iload_n hx hb dL_begin_1 rfl (lv_at hl 1 rfl) ?_
  refine lv_iload_n hx hb dL_begin_2 rfl (lv_at hl 2 rfl) ?_
  refine x_caught (As := [.int x, .int y]) (rest := []) hC vf_L_7 hw hA hT (by decide) h0 rfl rfl (c_beginT l hl0 n t cl qu en kp dl ou cp ks pt co sh vs hok hRC x y hbad) ⟨rfl, rfl, Nat.le_of_ble_eq_true rfl, Nat.le_of_ble_eq_true rfl⟩ hl.1 (Nat.le_of_ble_eq_true rfl) dL_begin_3 ⟨Nat.le_of_ble_eq_true rfl, Nat.le_of_ble_eq_true rfl⟩ rfl (hpc := 9) (Or.inl ⟨⟨0, 6, 9, 13⟩, [], "java/lang/IllegalArgumentException", htab, by decide, by decide, (hts _ (List.mem_of_getElem? (i := 74) (by decide +kernel))), (hT.1.2.2.2.1 "java/lang/IllegalArgumentException" (by decide)), rfl⟩) (fun q9 H locs hw => ?_)
  refine lv_astore_n (lv' := [(3, .ref q9), (0, .ref (ad 0)), (1, .int x), (2, .int y)]) hx hb dL_begin_9 rfl hl (by decide) rfl (fun ls hl => ?_)
  refine lv_iconst (v := nI 1) hx hb dL_begin_10 (by decide) ?_
  exact x_hret hx hb hr hlocks hw rfl dL_begin_11
set_option maxHeartbeats 4000000 in
set_option maxRecDepth 100000 in
theorem h_deal (l : Launch) {D : va_G} {cI cJ cZ cD : ClassId} {ad : Nat → Nat} {w : Nat → va_E} {sz : Nat} {sa : Nat → Nat} (n t cl qu en kp : Nat) (dl ou cp ks pt : Nat → Nat) (co sh : Nat → Nat → Nat) (vs : Nat → Int64) (hok : OkS n t cl qu en kp dl ou cp ks pt co sh) (hRC : RC ad cI cJ cD w n t cl qu en kp dl ou cp ks pt co sh vs) (i : Nat) (hi1 : 1 ≤ i) (hi2 : i ≤ n) (seed : Int64) (hcl0 : cl = 0) (hdl : dl i = 0) : MH l yL_deal (.codeWith yL_deal cL_deal 5 (some .int) [(0, 6, 9, 13), (0, 6, 13, 19)]) ({ frames := 10, cells := 0, slots := 0, locals := 370 }) [.ref (ad 0), .int (nI i), .long seed] D (tyL cI cJ cZ cD) ad 89 w sz sa (some (.int (nI 0))) (fun u => (∀ z, 76 < z → u z = w z) ∧ RC ad cI cJ cD u n t cl qu en kp (va_up dl i 1) ou cp ks pt (va_up co i (coF seed i)) (va_up sh i (rgt (coF seed i) t)) vs) 0 0 := by
  refine MH.of (by decide) (Nat.le_of_ble_eq_true rfl) ?_
  intro p e s m below meth c ls hC hr hlocks htab hl hw hT
  obtain ⟨hx, hb, hml, hown, hts⟩ := id hC
  have hA : ∀ q, s.heap.size ≤ q → xA ad 89 s.heap.size q := fun q h => Or.inr h
  have hl : lv_has ls 5 [(0, .ref (ad 0)), (1, .int (nI i)), (2, .long seed)] := hl
  obtain ⟨⟨wh, h0, hwh⟩, -⟩ := id hRC
  refine lv_aload_n hx hb dL_deal_0 rfl (lv_at hl 0 rfl) ?_
  refine lv_iload_n hx hb dL_deal_1 rfl (lv_at hl 1 rfl) ?_
  refine lv_lload_n hx hb dL_deal_2 rfl (lv_at hl 2 rfl) ?_
  refine x_callW0 (As := [.int (nI i), .long seed]) (rest := []) hC vf_L_15 hw hA (by decide) h0 rfl rfl (c_deal l n t cl qu en kp dl ou cp ks pt co sh vs hok hRC i hi1 hi2 seed hcl0 hdl) ⟨rfl, rfl, Nat.le_of_ble_eq_true rfl, Nat.le_of_ble_eq_true rfl⟩ hl.1 (Nat.le_of_ble_eq_true rfl) dL_deal_3 ⟨Nat.zero_le _, Nat.zero_le _⟩ rfl (fun w_1 H locs hu9 hw => ?_)
  refine lv_goto (tgt := 17) hx hb dL_deal_6 (by decide) ?_
  refine lv_iconst (v := nI 0) hx hb dL_deal_17 (by decide) ?_
  exact x_hret hx hb hr hlocks hw hu9 dL_deal_18
set_option maxHeartbeats 4000000 in
set_option maxRecDepth 100000 in
theorem h_dealA (l : Launch) (hl0 : l.stackTraces = false) {D : va_G} {cI cJ cZ cD : ClassId} {ad : Nat → Nat} {w : Nat → va_E} {sz : Nat} {sa : Nat → Nat} (n t cl qu en kp : Nat) (dl ou cp ks pt : Nat → Nat) (co sh : Nat → Nat → Nat) (vs : Nat → Int64) (hok : OkS n t cl qu en kp dl ou cp ks pt co sh) (hRC : RC ad cI cJ cD w n t cl qu en kp dl ou cp ks pt co sh vs) (x : Int32) (seed : Int64) (hbad : ¬ isNd n x) : MH l yL_deal (.codeWith yL_deal cL_deal 5 (some .int) [(0, 6, 9, 13), (0, 6, 13, 19)]) ({ frames := 10, cells := 1, slots := 6, locals := 370 }) [.ref (ad 0), .int x, .long seed] D (tyL cI cJ cZ cD) ad 89 w sz sa (some (.int (nI 1))) (fun u => u = w) 1 6 := by
  refine MH.of (by decide) (Nat.le_of_ble_eq_true rfl) ?_
  intro p e s m below meth c ls hC hr hlocks htab hl hw hT
  obtain ⟨hx, hb, hml, hown, hts⟩ := id hC
  have hA : ∀ q, s.heap.size ≤ q → xA ad 89 s.heap.size q := fun q h => Or.inr h
  have hl : lv_has ls 5 [(0, .ref (ad 0)), (1, .int x), (2, .long seed)] := hl
  obtain ⟨⟨wh, h0, hwh⟩, -⟩ := id hRC
  refine lv_aload_n hx hb dL_deal_0 rfl (lv_at hl 0 rfl) ?_
  refine lv_iload_n hx hb dL_deal_1 rfl (lv_at hl 1 rfl) ?_
  refine lv_lload_n hx hb dL_deal_2 rfl (lv_at hl 2 rfl) ?_
  refine x_caught (As := [.int x, .long seed]) (rest := []) hC vf_L_15 hw hA hT (by decide) h0 rfl rfl (c_dealA l hl0 n t cl qu en kp dl ou cp ks pt co sh vs hok hRC x seed hbad) ⟨rfl, rfl, Nat.le_of_ble_eq_true rfl, Nat.le_of_ble_eq_true rfl⟩ hl.1 (Nat.le_of_ble_eq_true rfl) dL_deal_3 ⟨Nat.le_of_ble_eq_true rfl, Nat.le_of_ble_eq_true rfl⟩ rfl (hpc := 9) (Or.inl ⟨⟨0, 6, 9, 13⟩, [⟨0, 6, 13, 19⟩], "java/lang/IllegalArgumentException", htab, by decide, by decide, (hts _ (List.mem_of_getElem? (i := 74) (by decide +kernel))), (hT.1.2.2.2.1 "java/lang/IllegalArgumentException" (by decide)), rfl⟩) (fun q9 H locs hw => ?_)
  refine lv_astore (lv' := [(4, .ref q9), (0, .ref (ad 0)), (1, .int x), (2, .long seed)]) hx hb dL_deal_9 hl (by decide) rfl (fun ls hl => ?_)
  refine lv_iconst (v := nI 1) hx hb dL_deal_11 (by decide) ?_
  exact x_hret hx hb hr hlocks hw rfl dL_deal_12
set_option maxHeartbeats 4000000 in
set_option maxRecDepth 100000 in
theorem h_dealS1 (l : Launch) (hl0 : l.stackTraces = false) {D : va_G} {cI cJ cZ cD : ClassId} {ad : Nat → Nat} {w : Nat → va_E} {sz : Nat} {sa : Nat → Nat} (n t cl qu en kp : Nat) (dl ou cp ks pt : Nat → Nat) (co sh : Nat → Nat → Nat) (vs : Nat → Int64) (hok : OkS n t cl qu en kp dl ou cp ks pt co sh) (hRC : RC ad cI cJ cD w n t cl qu en kp dl ou cp ks pt co sh vs) (i : Nat) (hi1 : 1 ≤ i) (hi2 : i ≤ n) (seed : Int64) (hcl0 : cl = 1) : MH l yL_deal (.codeWith yL_deal cL_deal 5 (some .int) [(0, 6, 9, 13), (0, 6, 13, 19)]) ({ frames := 10, cells := 1, slots := 6, locals := 370 }) [.ref (ad 0), .int (nI i), .long seed] D (tyL cI cJ cZ cD) ad 89 w sz sa (some (.int (nI 2))) (fun u => u = w) 1 6 := by
  refine MH.of (by decide) (Nat.le_of_ble_eq_true rfl) ?_
  intro p e s m below meth c ls hC hr hlocks htab hl hw hT
  obtain ⟨hx, hb, hml, hown, hts⟩ := id hC
  have hA : ∀ q, s.heap.size ≤ q → xA ad 89 s.heap.size q := fun q h => Or.inr h
  have hl : lv_has ls 5 [(0, .ref (ad 0)), (1, .int (nI i)), (2, .long seed)] := hl
  obtain ⟨⟨wh, h0, hwh⟩, -⟩ := id hRC
  refine lv_aload_n hx hb dL_deal_0 rfl (lv_at hl 0 rfl) ?_
  refine lv_iload_n hx hb dL_deal_1 rfl (lv_at hl 1 rfl) ?_
  refine lv_lload_n hx hb dL_deal_2 rfl (lv_at hl 2 rfl) ?_
  refine x_caught (As := [.int (nI i), .long seed]) (rest := []) hC vf_L_15 hw hA hT (by decide) h0 rfl rfl (c_dealS1 l hl0 n t cl qu en kp dl ou cp ks pt co sh vs hok hRC i hi1 hi2 seed hcl0) ⟨rfl, rfl, Nat.le_of_ble_eq_true rfl, Nat.le_of_ble_eq_true rfl⟩ hl.1 (Nat.le_of_ble_eq_true rfl) dL_deal_3 ⟨Nat.le_of_ble_eq_true rfl, Nat.le_of_ble_eq_true rfl⟩ rfl (hpc := 13) (Or.inr ⟨⟨0, 6, 9, 13⟩, ⟨0, 6, 13, 19⟩, [], "java/lang/IllegalArgumentException", "java/lang/IllegalStateException", htab, by decide, by decide, (hts _ (List.mem_of_getElem? (i := 74) (by decide +kernel))), hT.2.1, by decide, by decide, (hts _ (List.mem_of_getElem? (i := 120) (by decide +kernel))), (hT.1.2.2.2.1 "java/lang/IllegalStateException" (by decide)), rfl⟩) (fun q9 H locs hw => ?_)
  refine lv_astore (lv' := [(4, .ref q9), (0, .ref (ad 0)), (1, .int (nI i)), (2, .long seed)]) hx hb dL_deal_13 hl (by decide) rfl (fun ls hl => ?_)
  refine lv_iconst (v := nI 2) hx hb dL_deal_15 (by decide) ?_
  exact x_hret hx hb hr hlocks hw rfl dL_deal_16
set_option maxHeartbeats 4000000 in
set_option maxRecDepth 100000 in
theorem h_dealS2 (l : Launch) (hl0 : l.stackTraces = false) {D : va_G} {cI cJ cZ cD : ClassId} {ad : Nat → Nat} {w : Nat → va_E} {sz : Nat} {sa : Nat → Nat} (n t cl qu en kp : Nat) (dl ou cp ks pt : Nat → Nat) (co sh : Nat → Nat → Nat) (vs : Nat → Int64) (hok : OkS n t cl qu en kp dl ou cp ks pt co sh) (hRC : RC ad cI cJ cD w n t cl qu en kp dl ou cp ks pt co sh vs) (i : Nat) (hi1 : 1 ≤ i) (hi2 : i ≤ n) (seed : Int64) (hcl0 : cl = 0) (hdl : dl i = 1) : MH l yL_deal (.codeWith yL_deal cL_deal 5 (some .int) [(0, 6, 9, 13), (0, 6, 13, 19)]) ({ frames := 10, cells := 1, slots := 6, locals := 370 }) [.ref (ad 0), .int (nI i), .long seed] D (tyL cI cJ cZ cD) ad 89 w sz sa (some (.int (nI 2))) (fun u => u = w) 1 6 := by
  refine MH.of (by decide) (Nat.le_of_ble_eq_true rfl) ?_
  intro p e s m below meth c ls hC hr hlocks htab hl hw hT
  obtain ⟨hx, hb, hml, hown, hts⟩ := id hC
  have hA : ∀ q, s.heap.size ≤ q → xA ad 89 s.heap.size q := fun q h => Or.inr h
  have hl : lv_has ls 5 [(0, .ref (ad 0)), (1, .int (nI i)), (2, .long seed)] := hl
  obtain ⟨⟨wh, h0, hwh⟩, -⟩ := id hRC
  refine lv_aload_n hx hb dL_deal_0 rfl (lv_at hl 0 rfl) ?_
  refine lv_iload_n hx hb dL_deal_1 rfl (lv_at hl 1 rfl) ?_
  refine lv_lload_n hx hb dL_deal_2 rfl (lv_at hl 2 rfl) ?_
  refine x_caught (As := [.int (nI i), .long seed]) (rest := []) hC vf_L_15 hw hA hT (by decide) h0 rfl rfl (c_dealS2 l hl0 n t cl qu en kp dl ou cp ks pt co sh vs hok hRC i hi1 hi2 seed hcl0 hdl) ⟨rfl, rfl, Nat.le_of_ble_eq_true rfl, Nat.le_of_ble_eq_true rfl⟩ hl.1 (Nat.le_of_ble_eq_true rfl) dL_deal_3 ⟨Nat.le_of_ble_eq_true rfl, Nat.le_of_ble_eq_true rfl⟩ rfl (hpc := 13) (Or.inr ⟨⟨0, 6, 9, 13⟩, ⟨0, 6, 13, 19⟩, [], "java/lang/IllegalArgumentException", "java/lang/IllegalStateException", htab, by decide, by decide, (hts _ (List.mem_of_getElem? (i := 74) (by decide +kernel))), hT.2.1, by decide, by decide, (hts _ (List.mem_of_getElem? (i := 120) (by decide +kernel))), (hT.1.2.2.2.1 "java/lang/IllegalStateException" (by decide)), rfl⟩) (fun q9 H locs hw => ?_)
  refine lv_astore (lv' := [(4, .ref q9), (0, .ref (ad 0)), (1, .int (nI i)), (2, .long seed)]) hx hb dL_deal_13 hl (by decide) rfl (fun ls hl => ?_)
  refine lv_iconst (v := nI 2) hx hb dL_deal_15 (by decide) ?_
  exact x_hret hx hb hr hlocks hw rfl dL_deal_16
set_option maxHeartbeats 4000000 in
set_option maxRecDepth 100000 in
theorem h_spoilA (l : Launch) (hl0 : l.stackTraces = false) {D : va_G} {cI cJ cZ cD : ClassId} {ad : Nat → Nat} {w : Nat → va_E} {sz : Nat} {sa : Nat → Nat} (n t cl qu en kp : Nat) (dl ou cp ks pt : Nat → Nat) (co sh : Nat → Nat → Nat) (vs : Nat → Int64) (hok : OkS n t cl qu en kp dl ou cp ks pt co sh) (hRC : RC ad cI cJ cD w n t cl qu en kp dl ou cp ks pt co sh vs) (x y z : Int32) (hbad : ¬ (isNd n x ∧ isNd n y ∧ isEx z)) : MH l yL_spoil (.codeWith yL_spoil cL_spoil 6 (some .int) [(0, 12, 15, 13), (0, 12, 19, 19)]) ({ frames := 10, cells := 1, slots := 6, locals := 370 }) [.ref (ad 0), .int x, .int y, .int z, .ref (ad 88)] D (tyL cI cJ cZ cD) ad 89 w sz sa (some (.int (nI 1))) (fun u => u = w) 1 6 := by
  refine MH.of (by decide) (Nat.le_of_ble_eq_true rfl) ?_
  intro p e s m below meth c ls hC hr hlocks htab hl hw hT
  obtain ⟨hx, hb, hml, hown, hts⟩ := id hC
  have hA : ∀ q, s.heap.size ≤ q → xA ad 89 s.heap.size q := fun q h => Or.inr h
  have hl : lv_has ls 6 [(0, .ref (ad 0)), (1, .int x), (2, .int y), (3, .int z), (4, .ref (ad 88))] := hl
  obtain ⟨⟨wh, h0, hwh⟩, -⟩ := id hRC
  refine lv_aload hx hb dL_spoil_0 (lv_at hl 4 rfl) ?_
  refine lv_iconst (v := nI 0) hx hb dL_spoil_2 (by decide) ?_
  refine lv_aload_n hx hb dL_spoil_3 rfl (lv_at hl 0 rfl) ?_
  refine lv_iload_n hx hb dL_spoil_4 rfl (lv_at hl 1 rfl) ?_
  refine lv_iload_n hx hb dL_spoil_5 rfl (lv_at hl 2 rfl) ?_
  refine lv_iload_n hx hb dL_spoil_6 rfl (lv_at hl 3 rfl) ?_
  refine x_caught (As := [.int x, .int y, .int z]) (rest := [.int (nI 0), .ref (ad 88)]) hC vf_L_21 hw hA hT (by decide) h0 rfl rfl (c_spoilA l hl0 n t cl qu en kp dl ou cp ks pt co sh vs hok hRC x y z hbad) ⟨rfl, rfl, Nat.le_of_ble_eq_true rfl, Nat.le_of_ble_eq_true rfl⟩ hl.1 (Nat.le_of_ble_eq_true rfl) dL_spoil_7 ⟨Nat.le_of_ble_eq_true rfl, Nat.le_of_ble_eq_true rfl⟩ rfl (hpc := 15) (Or.inl ⟨⟨0, 12, 15, 13⟩, [⟨0, 12, 19, 19⟩], "java/lang/IllegalArgumentException", htab, by decide, by decide, (hts _ (List.mem_of_getElem? (i := 74) (by decide +kernel))), (hT.1.2.2.2.1 "java/lang/IllegalArgumentException" (by decide)), rfl⟩) (fun q9 H locs hw => ?_)
  refine lv_astore (lv' := [(5, .ref q9), (0, .ref (ad 0)), (1, .int x), (2, .int y), (3, .int z), (4, .ref (ad 88))]) hx hb dL_spoil_15 hl (by decide) rfl (fun ls hl => ?_)
  refine lv_iconst (v := nI 1) hx hb dL_spoil_17 (by decide) ?_
  exact x_hret hx hb hr hlocks hw rfl dL_spoil_18
set_option maxHeartbeats 4000000 in
set_option maxRecDepth 100000 in
theorem h_spoil (l : Launch) {D : va_G} {cI cJ cZ cD : ClassId} {ad : Nat → Nat} {w : Nat → va_E} {sz : Nat} {sa : Nat → Nat} (n t cl qu en kp : Nat) (dl ou cp ks pt : Nat → Nat) (co sh : Nat → Nat → Nat) (vs : Nat → Int64) (hok : OkS n t cl qu en kp dl ou cp ks pt co sh) (hRC : RC ad cI cJ cD w n t cl qu en kp dl ou cp ks pt co sh vs) (i k : Nat) (hi1 : 1 ≤ i) (hi2 : i ≤ n) (hk1 : 1 ≤ k) (hk2 : k ≤ n) (x : Nat) (hx0 : x < 1073741789) (hdl : dl i = 1) (hcl0 : cl = 0) (ofn : Nat → Int64) (hOut : w 88 = .inl (cJ, 1, .inr (.inl ofn))) : MH l yL_spoil (.codeWith yL_spoil cL_spoil 6 (some .int) [(0, 12, 15, 13), (0, 12, 19, 19)]) ({ frames := 10, cells := 0, slots := 0, locals := 370 }) [.ref (ad 0), .int (nI i), .int (nI k), .int (nI x), .ref (ad 88)] D (tyL cI cJ cZ cD) ad 89 w sz sa (some (.int (nI 0))) (fun u => ((∀ z, 76 < z → z ≠ 88 → u z = w z) ∧ RC ad cI cJ cD u n t cl qu en kp dl ou cp ks pt co (va_up sh i (va_up (sh i) k ((sh i k + x) % 1073741789))) vs) ∧ u 88 = .inl (cJ, 1, .inr (.inl (vp_updL ofn 0 ((nI (sh i k)).toInt64))))) 0 0 := by
  refine MH.of (by decide) (Nat.le_of_ble_eq_true rfl) ?_
  intro p e s m below meth c ls hC hr hlocks htab hl hw hT
  obtain ⟨hx, hb, hml, hown, hts⟩ := id hC
  have hA : ∀ q, s.heap.size ≤ q → xA ad 89 s.heap.size q := fun q h => Or.inr h
  have hl : lv_has ls 6 [(0, .ref (ad 0)), (1, .int (nI i)), (2, .int (nI k)), (3, .int (nI x)), (4, .ref (ad 88))] := hl
  obtain ⟨⟨wh, h0, hwh⟩, -⟩ := id hRC
  refine lv_aload hx hb dL_spoil_0 (lv_at hl 4 rfl) ?_
  refine lv_iconst (v := nI 0) hx hb dL_spoil_2 (by decide) ?_
  refine lv_aload_n hx hb dL_spoil_3 rfl (lv_at hl 0 rfl) ?_
  refine lv_iload_n hx hb dL_spoil_4 rfl (lv_at hl 1 rfl) ?_
  refine lv_iload_n hx hb dL_spoil_5 rfl (lv_at hl 2 rfl) ?_
  refine lv_iload_n hx hb dL_spoil_6 rfl (lv_at hl 3 rfl) ?_
  refine x_callW1 (As := [.int (nI i), .int (nI k), .int (nI x)]) (rest := [.int (nI 0), .ref (ad 88)]) hC vf_L_21 hw hA (by decide) h0 rfl rfl (c_spoil l n t cl qu en kp dl ou cp ks pt co sh vs hok hRC i k hi1 hi2 hk1 hk2 x hx0 hdl hcl0) ⟨rfl, rfl, Nat.le_of_ble_eq_true rfl, Nat.le_of_ble_eq_true rfl⟩ hl.1 (Nat.le_of_ble_eq_true rfl) dL_spoil_7 ⟨Nat.zero_le _, Nat.zero_le _⟩ rfl (fun w_1 H locs hu9 hw => ?_)
  have hO2 : w_1 88 = .inl (cJ, 1, .inr (.inl ofn)) := (hu9.1 88 (by decide)).trans hOut
  refine lv_i2l hx hb dL_spoil_10 rfl ?_
  refine x_last hx hb hw (by decide) 1 hO2 rfl (j := 0) (by omega) (by decide) dL_spoil_11 (fun w_2 H locs ew_3 hw => ?_)
  have hc_4 : w_2 88 = .inl (cJ, 1, .inr (.inl (vp_updL ofn 0 ((nI (sh i k)).toInt64)))) := by rw [ew_3]; exact va_up_self _ _ _
  refine lv_goto (tgt := 23) hx hb dL_spoil_12 (by decide) ?_
  refine lv_iconst (v := nI 0) hx hb dL_spoil_23 (by decide) ?_
  exact x_hret hx hb hr hlocks hw ⟨⟨fun z h1 h2 => by rw [ew_3]; exact (va_up_ne _ _ h2).trans (hu9.1 z h1), RC.of hu9.2 (fun z hz => by rw [ew_3]; exact va_up_ne _ _ (by omega))⟩, hc_4⟩ dL_spoil_24
set_option maxHeartbeats 4000000 in
set_option maxRecDepth 100000 in
theorem h_spoilS1 (l : Launch) (hl0 : l.stackTraces = false) {D : va_G} {cI cJ cZ cD : ClassId} {ad : Nat → Nat} {w : Nat → va_E} {sz : Nat} {sa : Nat → Nat} (n t cl qu en kp : Nat) (dl ou cp ks pt : Nat → Nat) (co sh : Nat → Nat → Nat) (vs : Nat → Int64) (hok : OkS n t cl qu en kp dl ou cp ks pt co sh) (hRC : RC ad cI cJ cD w n t cl qu en kp dl ou cp ks pt co sh vs) (i k : Nat) (hi1 : 1 ≤ i) (hi2 : i ≤ n) (hk1 : 1 ≤ k) (hk2 : k ≤ n) (x : Nat) (hx0 : x < 1073741789) (hdl : dl i = 0) : MH l yL_spoil (.codeWith yL_spoil cL_spoil 6 (some .int) [(0, 12, 15, 13), (0, 12, 19, 19)]) ({ frames := 10, cells := 1, slots := 6, locals := 370 }) [.ref (ad 0), .int (nI i), .int (nI k), .int (nI x), .ref (ad 88)] D (tyL cI cJ cZ cD) ad 89 w sz sa (some (.int (nI 2))) (fun u => u = w) 1 6 := by
  refine MH.of (by decide) (Nat.le_of_ble_eq_true rfl) ?_
  intro p e s m below meth c ls hC hr hlocks htab hl hw hT
  obtain ⟨hx, hb, hml, hown, hts⟩ := id hC
  have hA : ∀ q, s.heap.size ≤ q → xA ad 89 s.heap.size q := fun q h => Or.inr h
  have hl : lv_has ls 6 [(0, .ref (ad 0)), (1, .int (nI i)), (2, .int (nI k)), (3, .int (nI x)), (4, .ref (ad 88))] := hl
  obtain ⟨⟨wh, h0, hwh⟩, -⟩ := id hRC
  refine lv_aload hx hb dL_spoil_0 (lv_at hl 4 rfl) ?_
  refine lv_iconst (v := nI 0) hx hb dL_spoil_2 (by decide) ?_
  refine lv_aload_n hx hb dL_spoil_3 rfl (lv_at hl 0 rfl) ?_
  refine lv_iload_n hx hb dL_spoil_4 rfl (lv_at hl 1 rfl) ?_
  refine lv_iload_n hx hb dL_spoil_5 rfl (lv_at hl 2 rfl) ?_
  refine lv_iload_n hx hb dL_spoil_6 rfl (lv_at hl 3 rfl) ?_
  refine x_caught (As := [.int (nI i), .int (nI k), .int (nI x)]) (rest := [.int (nI 0), .ref (ad 88)]) hC vf_L_21 hw hA hT (by decide) h0 rfl rfl (c_spoilS1 l hl0 n t cl qu en kp dl ou cp ks pt co sh vs hok hRC i k hi1 hi2 hk1 hk2 x hx0 hdl) ⟨rfl, rfl, Nat.le_of_ble_eq_true rfl, Nat.le_of_ble_eq_true rfl⟩ hl.1 (Nat.le_of_ble_eq_true rfl) dL_spoil_7 ⟨Nat.le_of_ble_eq_true rfl, Nat.le_of_ble_eq_true rfl⟩ rfl (hpc := 19) (Or.inr ⟨⟨0, 12, 15, 13⟩, ⟨0, 12, 19, 19⟩, [], "java/lang/IllegalArgumentException", "java/lang/IllegalStateException", htab, by decide, by decide, (hts _ (List.mem_of_getElem? (i := 74) (by decide +kernel))), hT.2.1, by decide, by decide, (hts _ (List.mem_of_getElem? (i := 120) (by decide +kernel))), (hT.1.2.2.2.1 "java/lang/IllegalStateException" (by decide)), rfl⟩) (fun q9 H locs hw => ?_)
  refine lv_astore (lv' := [(5, .ref q9), (0, .ref (ad 0)), (1, .int (nI i)), (2, .int (nI k)), (3, .int (nI x)), (4, .ref (ad 88))]) hx hb dL_spoil_19 hl (by decide) rfl (fun ls hl => ?_)
  refine lv_iconst (v := nI 2) hx hb dL_spoil_21 (by decide) ?_
  exact x_hret hx hb hr hlocks hw rfl dL_spoil_22
set_option maxHeartbeats 4000000 in
set_option maxRecDepth 100000 in
theorem h_spoilS2 (l : Launch) (hl0 : l.stackTraces = false) {D : va_G} {cI cJ cZ cD : ClassId} {ad : Nat → Nat} {w : Nat → va_E} {sz : Nat} {sa : Nat → Nat} (n t cl qu en kp : Nat) (dl ou cp ks pt : Nat → Nat) (co sh : Nat → Nat → Nat) (vs : Nat → Int64) (hok : OkS n t cl qu en kp dl ou cp ks pt co sh) (hRC : RC ad cI cJ cD w n t cl qu en kp dl ou cp ks pt co sh vs) (i k : Nat) (hi1 : 1 ≤ i) (hi2 : i ≤ n) (hk1 : 1 ≤ k) (hk2 : k ≤ n) (x : Nat) (hx0 : x < 1073741789) (hdl : dl i = 1) (hcl0 : cl = 1) : MH l yL_spoil (.codeWith yL_spoil cL_spoil 6 (some .int) [(0, 12, 15, 13), (0, 12, 19, 19)]) ({ frames := 10, cells := 1, slots := 6, locals := 370 }) [.ref (ad 0), .int (nI i), .int (nI k), .int (nI x), .ref (ad 88)] D (tyL cI cJ cZ cD) ad 89 w sz sa (some (.int (nI 2))) (fun u => u = w) 1 6 := by
  refine MH.of (by decide) (Nat.le_of_ble_eq_true rfl) ?_
  intro p e s m below meth c ls hC hr hlocks htab hl hw hT
  obtain ⟨hx, hb, hml, hown, hts⟩ := id hC
  have hA : ∀ q, s.heap.size ≤ q → xA ad 89 s.heap.size q := fun q h => Or.inr h
  have hl : lv_has ls 6 [(0, .ref (ad 0)), (1, .int (nI i)), (2, .int (nI k)), (3, .int (nI x)), (4, .ref (ad 88))] := hl
  obtain ⟨⟨wh, h0, hwh⟩, -⟩ := id hRC
  refine lv_aload hx hb dL_spoil_0 (lv_at hl 4 rfl) ?_
  refine lv_iconst (v := nI 0) hx hb dL_spoil_2 (by decide) ?_
  refine lv_aload_n hx hb dL_spoil_3 rfl (lv_at hl 0 rfl) ?_
  refine lv_iload_n hx hb dL_spoil_4 rfl (lv_at hl 1 rfl) ?_
  refine lv_iload_n hx hb dL_spoil_5 rfl (lv_at hl 2 rfl) ?_
  refine lv_iload_n hx hb dL_spoil_6 rfl (lv_at hl 3 rfl) ?_
  refine x_caught (As := [.int (nI i), .int (nI k), .int (nI x)]) (rest := [.int (nI 0), .ref (ad 88)]) hC vf_L_21 hw hA hT (by decide) h0 rfl rfl (c_spoilS2 l hl0 n t cl qu en kp dl ou cp ks pt co sh vs hok hRC i k hi1 hi2 hk1 hk2 x hx0 hdl hcl0) ⟨rfl, rfl, Nat.le_of_ble_eq_true rfl, Nat.le_of_ble_eq_true rfl⟩ hl.1 (Nat.le_of_ble_eq_true rfl) dL_spoil_7 ⟨Nat.le_of_ble_eq_true rfl, Nat.le_of_ble_eq_true rfl⟩ rfl (hpc := 19) (Or.inr ⟨⟨0, 12, 15, 13⟩, ⟨0, 12, 19, 19⟩, [], "java/lang/IllegalArgumentException", "java/lang/IllegalStateException", htab, by decide, by decide, (hts _ (List.mem_of_getElem? (i := 74) (by decide +kernel))), hT.2.1, by decide, by decide, (hts _ (List.mem_of_getElem? (i := 120) (by decide +kernel))), (hT.1.2.2.2.1 "java/lang/IllegalStateException" (by decide)), rfl⟩) (fun q9 H locs hw => ?_)
  refine lv_astore (lv' := [(5, .ref q9), (0, .ref (ad 0)), (1, .int (nI i)), (2, .int (nI k)), (3, .int (nI x)), (4, .ref (ad 88))]) hx hb dL_spoil_19 hl (by decide) rfl (fun ls hl => ?_)
  refine lv_iconst (v := nI 2) hx hb dL_spoil_21 (by decide) ?_
  exact x_hret hx hb hr hlocks hw rfl dL_spoil_22
set_option maxHeartbeats 4000000 in
set_option maxRecDepth 100000 in
theorem h_commitment (l : Launch) {D : va_G} {cI cJ cZ cD : ClassId} {ad : Nat → Nat} {w : Nat → va_E} {sz : Nat} {sa : Nat → Nat} (n t cl qu en kp : Nat) (dl ou cp ks pt : Nat → Nat) (co sh : Nat → Nat → Nat) (vs : Nat → Int64) (hok : OkS n t cl qu en kp dl ou cp ks pt co sh) (hRC : RC ad cI cJ cD w n t cl qu en kp dl ou cp ks pt co sh vs) (i j : Nat) (hi1 : 1 ≤ i) (hi2 : i ≤ n) (hj : j < t) (hdl : dl i = 1) (ofn : Nat → Int64) (hOut : w 88 = .inl (cJ, 1, .inr (.inl ofn))) : MH l yL_commitment (.codeWith yL_commitment cL_commitment 5 (some .int) [(0, 10, 13, 13), (0, 10, 17, 19)]) ({ frames := 10, cells := 0, slots := 0, locals := 370 }) [.ref (ad 0), .int (nI i), .int (nI j), .ref (ad 88)] D (tyL cI cJ cZ cD) ad 89 w sz sa (some (.int (nI 0))) (fun u => ((∀ z, 76 < z → z ≠ 88 → u z = w z) ∧ RC ad cI cJ cD u n t cl qu en kp dl ou cp ks pt co sh vs) ∧ u 88 = .inl (cJ, 1, .inr (.inl (vp_updL ofn 0 ((nI (4 ^ co i j % 2147483579)).toInt64))))) 0 0 := by
  refine MH.of (by decide) (Nat.le_of_ble_eq_true rfl) ?_
  intro p e s m below meth c ls hC hr hlocks htab hl hw hT
  obtain ⟨hx, hb, hml, hown, hts⟩ := id hC
  have hA : ∀ q, s.heap.size ≤ q → xA ad 89 s.heap.size q := fun q h => Or.inr h
  have hl : lv_has ls 5 [(0, .ref (ad 0)), (1, .int (nI i)), (2, .int (nI j)), (3, .ref (ad 88))] := hl
  obtain ⟨⟨wh, h0, hwh⟩, -⟩ := id hRC
  refine lv_aload_n hx hb dL_commitment_0 rfl (lv_at hl 3 rfl) ?_
  refine lv_iconst (v := nI 0) hx hb dL_commitment_1 (by decide) ?_
  refine lv_aload_n hx hb dL_commitment_2 rfl (lv_at hl 0 rfl) ?_
  refine lv_iload_n hx hb dL_commitment_3 rfl (lv_at hl 1 rfl) ?_
  refine lv_iload_n hx hb dL_commitment_4 rfl (lv_at hl 2 rfl) ?_
  refine x_callW1 (As := [.int (nI i), .int (nI j)]) (rest := [.int (nI 0), .ref (ad 88)]) hC vf_L_25 hw hA (by decide) h0 rfl rfl (c_commitment l n t cl qu en kp dl ou cp ks pt co sh vs hok hRC i j hi1 hi2 hj hdl) ⟨rfl, rfl, Nat.le_of_ble_eq_true rfl, Nat.le_of_ble_eq_true rfl⟩ hl.1 (Nat.le_of_ble_eq_true rfl) dL_commitment_5 ⟨Nat.zero_le _, Nat.zero_le _⟩ rfl (fun w_1 H locs hu9 hw => ?_)
  rw [hu9] at hw
  refine lv_i2l hx hb dL_commitment_8 rfl ?_
  refine x_last hx hb hw (by decide) 1 hOut rfl (j := 0) (by omega) (by decide) dL_commitment_9 (fun w_2 H locs ew_3 hw => ?_)
  have hc_4 : w_2 0 = .inr (3, [.ref (ad 1), .ref (ad 70), .ref (ad 71), .ref (ad 72), .ref (ad 76), .int (nI n), .int (nI t), .int (nI cl), .int (nI qu), .int wh]) := by rw [ew_3]; exact (va_up_ne _ _ (by omega)).trans h0
  have hc_5 : w_2 88 = .inl (cJ, 1, .inr (.inl (vp_updL ofn 0 ((nI (4 ^ co i j % 2147483579)).toInt64)))) := by rw [ew_3]; exact va_up_self _ _ _
  refine lv_goto (tgt := 21) hx hb dL_commitment_10 (by decide) ?_
  refine lv_iconst (v := nI 0) hx hb dL_commitment_21 (by decide) ?_
  exact x_hret hx hb hr hlocks hw ⟨⟨fun z _ h2 => by rw [ew_3]; exact va_up_ne _ _ h2, RC.of hRC (fun z hz => by rw [ew_3]; exact va_up_ne _ _ (by omega))⟩, hc_5⟩ dL_commitment_22
set_option maxHeartbeats 4000000 in
set_option maxRecDepth 100000 in
theorem h_commitmentA (l : Launch) (hl0 : l.stackTraces = false) {D : va_G} {cI cJ cZ cD : ClassId} {ad : Nat → Nat} {w : Nat → va_E} {sz : Nat} {sa : Nat → Nat} (n t cl qu en kp : Nat) (dl ou cp ks pt : Nat → Nat) (co sh : Nat → Nat → Nat) (vs : Nat → Int64) (hok : OkS n t cl qu en kp dl ou cp ks pt co sh) (hRC : RC ad cI cJ cD w n t cl qu en kp dl ou cp ks pt co sh vs) (x y : Int32) (hbad : ¬ (isNd n x ∧ ¬ y < 0 ∧ y < nI t)) : MH l yL_commitment (.codeWith yL_commitment cL_commitment 5 (some .int) [(0, 10, 13, 13), (0, 10, 17, 19)]) ({ frames := 10, cells := 1, slots := 6, locals := 370 }) [.ref (ad 0), .int x, .int y, .ref (ad 88)] D (tyL cI cJ cZ cD) ad 89 w sz sa (some (.int (nI 1))) (fun u => u = w) 1 6 := by
  refine MH.of (by decide) (Nat.le_of_ble_eq_true rfl) ?_
  intro p e s m below meth c ls hC hr hlocks htab hl hw hT
  obtain ⟨hx, hb, hml, hown, hts⟩ := id hC
  have hA : ∀ q, s.heap.size ≤ q → xA ad 89 s.heap.size q := fun q h => Or.inr h
  have hl : lv_has ls 5 [(0, .ref (ad 0)), (1, .int x), (2, .int y), (3, .ref (ad 88))] := hl
  obtain ⟨⟨wh, h0, hwh⟩, -⟩ := id hRC
  refine lv_aload_n hx hb dL_commitment_0 rfl (lv_at hl 3 rfl) ?_
  refine lv_iconst (v := nI 0) hx hb dL_commitment_1 (by decide) ?_
  refine lv_aload_n hx hb dL_commitment_2 rfl (lv_at hl 0 rfl) ?_
  refine lv_iload_n hx hb dL_commitment_3 rfl (lv_at hl 1 rfl) ?_
  refine lv_iload_n hx hb dL_commitment_4 rfl (lv_at hl 2 rfl) ?_
  refine x_caught (As := [.int x, .int y]) (rest := [.int (nI 0), .ref (ad 88)]) hC vf_L_25 hw hA hT (by decide) h0 rfl rfl (c_commitmentA l hl0 n t cl qu en kp dl ou cp ks pt co sh vs hok hRC x y hbad) ⟨rfl, rfl, Nat.le_of_ble_eq_true rfl, Nat.le_of_ble_eq_true rfl⟩ hl.1 (Nat.le_of_ble_eq_true rfl) dL_commitment_5 ⟨Nat.le_of_ble_eq_true rfl, Nat.le_of_ble_eq_true rfl⟩ rfl (hpc := 13) (Or.inl ⟨⟨0, 10, 13, 13⟩, [⟨0, 10, 17, 19⟩], "java/lang/IllegalArgumentException", htab, by decide, by decide, (hts _ (List.mem_of_getElem? (i := 74) (by decide +kernel))), (hT.1.2.2.2.1 "java/lang/IllegalArgumentException" (by decide)), rfl⟩) (fun q9 H locs hw => ?_)
  refine lv_astore (lv' := [(4, .ref q9), (0, .ref (ad 0)), (1, .int x), (2, .int y), (3, .ref (ad 88))]) hx hb dL_commitment_13 hl (by decide) rfl (fun ls hl => ?_)
  refine lv_iconst (v := nI 1) hx hb dL_commitment_15 (by decide) ?_
  exact x_hret hx hb hr hlocks hw rfl dL_commitment_16
set_option maxHeartbeats 4000000 in
set_option maxRecDepth 100000 in
theorem h_commitmentS (l : Launch) (hl0 : l.stackTraces = false) {D : va_G} {cI cJ cZ cD : ClassId} {ad : Nat → Nat} {w : Nat → va_E} {sz : Nat} {sa : Nat → Nat} (n t cl qu en kp : Nat) (dl ou cp ks pt : Nat → Nat) (co sh : Nat → Nat → Nat) (vs : Nat → Int64) (hok : OkS n t cl qu en kp dl ou cp ks pt co sh) (hRC : RC ad cI cJ cD w n t cl qu en kp dl ou cp ks pt co sh vs) (i j : Nat) (hi1 : 1 ≤ i) (hi2 : i ≤ n) (hj : j < t) (hdl : dl i = 0) : MH l yL_commitment (.codeWith yL_commitment cL_commitment 5 (some .int) [(0, 10, 13, 13), (0, 10, 17, 19)]) ({ frames := 10, cells := 1, slots := 6, locals := 370 }) [.ref (ad 0), .int (nI i), .int (nI j), .ref (ad 88)] D (tyL cI cJ cZ cD) ad 89 w sz sa (some (.int (nI 2))) (fun u => u = w) 1 6 := by
  refine MH.of (by decide) (Nat.le_of_ble_eq_true rfl) ?_
  intro p e s m below meth c ls hC hr hlocks htab hl hw hT
  obtain ⟨hx, hb, hml, hown, hts⟩ := id hC
  have hA : ∀ q, s.heap.size ≤ q → xA ad 89 s.heap.size q := fun q h => Or.inr h
  have hl : lv_has ls 5 [(0, .ref (ad 0)), (1, .int (nI i)), (2, .int (nI j)), (3, .ref (ad 88))] := hl
  obtain ⟨⟨wh, h0, hwh⟩, -⟩ := id hRC
  refine lv_aload_n hx hb dL_commitment_0 rfl (lv_at hl 3 rfl) ?_
  refine lv_iconst (v := nI 0) hx hb dL_commitment_1 (by decide) ?_
  refine lv_aload_n hx hb dL_commitment_2 rfl (lv_at hl 0 rfl) ?_
  refine lv_iload_n hx hb dL_commitment_3 rfl (lv_at hl 1 rfl) ?_
  refine lv_iload_n hx hb dL_commitment_4 rfl (lv_at hl 2 rfl) ?_
  refine x_caught (As := [.int (nI i), .int (nI j)]) (rest := [.int (nI 0), .ref (ad 88)]) hC vf_L_25 hw hA hT (by decide) h0 rfl rfl (c_commitmentS l hl0 n t cl qu en kp dl ou cp ks pt co sh vs hok hRC i j hi1 hi2 hj hdl) ⟨rfl, rfl, Nat.le_of_ble_eq_true rfl, Nat.le_of_ble_eq_true rfl⟩ hl.1 (Nat.le_of_ble_eq_true rfl) dL_commitment_5 ⟨Nat.le_of_ble_eq_true rfl, Nat.le_of_ble_eq_true rfl⟩ rfl (hpc := 17) (Or.inr ⟨⟨0, 10, 13, 13⟩, ⟨0, 10, 17, 19⟩, [], "java/lang/IllegalArgumentException", "java/lang/IllegalStateException", htab, by decide, by decide, (hts _ (List.mem_of_getElem? (i := 74) (by decide +kernel))), hT.2.1, by decide, by decide, (hts _ (List.mem_of_getElem? (i := 120) (by decide +kernel))), (hT.1.2.2.2.1 "java/lang/IllegalStateException" (by decide)), rfl⟩) (fun q9 H locs hw => ?_)
  refine lv_astore (lv' := [(4, .ref q9), (0, .ref (ad 0)), (1, .int (nI i)), (2, .int (nI j)), (3, .ref (ad 88))]) hx hb dL_commitment_17 hl (by decide) rfl (fun ls hl => ?_)
  refine lv_iconst (v := nI 2) hx hb dL_commitment_19 (by decide) ?_
  exact x_hret hx hb hr hlocks hw rfl dL_commitment_20
set_option maxHeartbeats 4000000 in
set_option maxRecDepth 100000 in
theorem h_share (l : Launch) {D : va_G} {cI cJ cZ cD : ClassId} {ad : Nat → Nat} {w : Nat → va_E} {sz : Nat} {sa : Nat → Nat} (n t cl qu en kp : Nat) (dl ou cp ks pt : Nat → Nat) (co sh : Nat → Nat → Nat) (vs : Nat → Int64) (hok : OkS n t cl qu en kp dl ou cp ks pt co sh) (hRC : RC ad cI cJ cD w n t cl qu en kp dl ou cp ks pt co sh vs) (i k : Nat) (hi1 : 1 ≤ i) (hi2 : i ≤ n) (hk1 : 1 ≤ k) (hk2 : k ≤ n) (hdl : dl i = 1) (ofn : Nat → Int64) (hOut : w 88 = .inl (cJ, 1, .inr (.inl ofn))) : MH l yL_share (.codeWith yL_share cL_share 5 (some .int) [(0, 10, 13, 13), (0, 10, 17, 19)]) ({ frames := 10, cells := 0, slots := 0, locals := 370 }) [.ref (ad 0), .int (nI i), .int (nI k), .ref (ad 88)] D (tyL cI cJ cZ cD) ad 89 w sz sa (some (.int (nI 0))) (fun u => ((∀ z, 76 < z → z ≠ 88 → u z = w z) ∧ RC ad cI cJ cD u n t cl qu en kp dl ou cp ks pt co sh vs) ∧ u 88 = .inl (cJ, 1, .inr (.inl (vp_updL ofn 0 ((nI (sh i k)).toInt64))))) 0 0 := by
  refine MH.of (by decide) (Nat.le_of_ble_eq_true rfl) ?_
  intro p e s m below meth c ls hC hr hlocks htab hl hw hT
  obtain ⟨hx, hb, hml, hown, hts⟩ := id hC
  have hA : ∀ q, s.heap.size ≤ q → xA ad 89 s.heap.size q := fun q h => Or.inr h
  have hl : lv_has ls 5 [(0, .ref (ad 0)), (1, .int (nI i)), (2, .int (nI k)), (3, .ref (ad 88))] := hl
  obtain ⟨⟨wh, h0, hwh⟩, -⟩ := id hRC
  refine lv_aload_n hx hb dL_share_0 rfl (lv_at hl 3 rfl) ?_
  refine lv_iconst (v := nI 0) hx hb dL_share_1 (by decide) ?_
  refine lv_aload_n hx hb dL_share_2 rfl (lv_at hl 0 rfl) ?_
  refine lv_iload_n hx hb dL_share_3 rfl (lv_at hl 1 rfl) ?_
  refine lv_iload_n hx hb dL_share_4 rfl (lv_at hl 2 rfl) ?_
  refine x_callW1 (As := [.int (nI i), .int (nI k)]) (rest := [.int (nI 0), .ref (ad 88)]) hC vf_L_29 hw hA (by decide) h0 rfl rfl (c_share l n t cl qu en kp dl ou cp ks pt co sh vs hok hRC i k hi1 hi2 hk1 hk2 hdl) ⟨rfl, rfl, Nat.le_of_ble_eq_true rfl, Nat.le_of_ble_eq_true rfl⟩ hl.1 (Nat.le_of_ble_eq_true rfl) dL_share_5 ⟨Nat.zero_le _, Nat.zero_le _⟩ rfl (fun w_1 H locs hu9 hw => ?_)
  rw [hu9] at hw
  refine lv_i2l hx hb dL_share_8 rfl ?_
  refine x_last hx hb hw (by decide) 1 hOut rfl (j := 0) (by omega) (by decide) dL_share_9 (fun w_2 H locs ew_3 hw => ?_)
  have hc_4 : w_2 0 = .inr (3, [.ref (ad 1), .ref (ad 70), .ref (ad 71), .ref (ad 72), .ref (ad 76), .int (nI n), .int (nI t), .int (nI cl), .int (nI qu), .int wh]) := by rw [ew_3]; exact (va_up_ne _ _ (by omega)).trans h0
  have hc_5 : w_2 88 = .inl (cJ, 1, .inr (.inl (vp_updL ofn 0 ((nI (sh i k)).toInt64)))) := by rw [ew_3]; exact va_up_self _ _ _
  refine lv_goto (tgt := 21) hx hb dL_share_10 (by decide) ?_
  refine lv_iconst (v := nI 0) hx hb dL_share_21 (by decide) ?_
  exact x_hret hx hb hr hlocks hw ⟨⟨fun z _ h2 => by rw [ew_3]; exact va_up_ne _ _ h2, RC.of hRC (fun z hz => by rw [ew_3]; exact va_up_ne _ _ (by omega))⟩, hc_5⟩ dL_share_22
set_option maxHeartbeats 4000000 in
set_option maxRecDepth 100000 in
theorem h_shareA (l : Launch) (hl0 : l.stackTraces = false) {D : va_G} {cI cJ cZ cD : ClassId} {ad : Nat → Nat} {w : Nat → va_E} {sz : Nat} {sa : Nat → Nat} (n t cl qu en kp : Nat) (dl ou cp ks pt : Nat → Nat) (co sh : Nat → Nat → Nat) (vs : Nat → Int64) (hok : OkS n t cl qu en kp dl ou cp ks pt co sh) (hRC : RC ad cI cJ cD w n t cl qu en kp dl ou cp ks pt co sh vs) (x y : Int32) (hbad : ¬ (isNd n x ∧ isNd n y)) : MH l yL_share (.codeWith yL_share cL_share 5 (some .int) [(0, 10, 13, 13), (0, 10, 17, 19)]) ({ frames := 10, cells := 1, slots := 6, locals := 370 }) [.ref (ad 0), .int x, .int y, .ref (ad 88)] D (tyL cI cJ cZ cD) ad 89 w sz sa (some (.int (nI 1))) (fun u => u = w) 1 6 := by
  refine MH.of (by decide) (Nat.le_of_ble_eq_true rfl) ?_
  intro p e s m below meth c ls hC hr hlocks htab hl hw hT
  obtain ⟨hx, hb, hml, hown, hts⟩ := id hC
  have hA : ∀ q, s.heap.size ≤ q → xA ad 89 s.heap.size q := fun q h => Or.inr h
  have hl : lv_has ls 5 [(0, .ref (ad 0)), (1, .int x), (2, .int y), (3, .ref (ad 88))] := hl
  obtain ⟨⟨wh, h0, hwh⟩, -⟩ := id hRC
  refine lv_aload_n hx hb dL_share_0 rfl (lv_at hl 3 rfl) ?_
  refine lv_iconst (v := nI 0) hx hb dL_share_1 (by decide) ?_
  refine lv_aload_n hx hb dL_share_2 rfl (lv_at hl 0 rfl) ?_
  refine lv_iload_n hx hb dL_share_3 rfl (lv_at hl 1 rfl) ?_
  refine lv_iload_n hx hb dL_share_4 rfl (lv_at hl 2 rfl) ?_
  refine x_caught (As := [.int x, .int y]) (rest := [.int (nI 0), .ref (ad 88)]) hC vf_L_29 hw hA hT (by decide) h0 rfl rfl (c_shareA l hl0 n t cl qu en kp dl ou cp ks pt co sh vs hok hRC x y hbad) ⟨rfl, rfl, Nat.le_of_ble_eq_true rfl, Nat.le_of_ble_eq_true rfl⟩ hl.1 (Nat.le_of_ble_eq_true rfl) dL_share_5 ⟨Nat.le_of_ble_eq_true rfl, Nat.le_of_ble_eq_true rfl⟩ rfl (hpc := 13) (Or.inl ⟨⟨0, 10, 13, 13⟩, [⟨0, 10, 17, 19⟩], "java/lang/IllegalArgumentException", htab, by decide, by decide, (hts _ (List.mem_of_getElem? (i := 74) (by decide +kernel))), (hT.1.2.2.2.1 "java/lang/IllegalArgumentException" (by decide)), rfl⟩) (fun q9 H locs hw => ?_)
  refine lv_astore (lv' := [(4, .ref q9), (0, .ref (ad 0)), (1, .int x), (2, .int y), (3, .ref (ad 88))]) hx hb dL_share_13 hl (by decide) rfl (fun ls hl => ?_)
  refine lv_iconst (v := nI 1) hx hb dL_share_15 (by decide) ?_
  exact x_hret hx hb hr hlocks hw rfl dL_share_16
set_option maxHeartbeats 4000000 in
set_option maxRecDepth 100000 in
theorem h_shareS (l : Launch) (hl0 : l.stackTraces = false) {D : va_G} {cI cJ cZ cD : ClassId} {ad : Nat → Nat} {w : Nat → va_E} {sz : Nat} {sa : Nat → Nat} (n t cl qu en kp : Nat) (dl ou cp ks pt : Nat → Nat) (co sh : Nat → Nat → Nat) (vs : Nat → Int64) (hok : OkS n t cl qu en kp dl ou cp ks pt co sh) (hRC : RC ad cI cJ cD w n t cl qu en kp dl ou cp ks pt co sh vs) (i k : Nat) (hi1 : 1 ≤ i) (hi2 : i ≤ n) (hk1 : 1 ≤ k) (hk2 : k ≤ n) (hdl : dl i = 0) : MH l yL_share (.codeWith yL_share cL_share 5 (some .int) [(0, 10, 13, 13), (0, 10, 17, 19)]) ({ frames := 10, cells := 1, slots := 6, locals := 370 }) [.ref (ad 0), .int (nI i), .int (nI k), .ref (ad 88)] D (tyL cI cJ cZ cD) ad 89 w sz sa (some (.int (nI 2))) (fun u => u = w) 1 6 := by
  refine MH.of (by decide) (Nat.le_of_ble_eq_true rfl) ?_
  intro p e s m below meth c ls hC hr hlocks htab hl hw hT
  obtain ⟨hx, hb, hml, hown, hts⟩ := id hC
  have hA : ∀ q, s.heap.size ≤ q → xA ad 89 s.heap.size q := fun q h => Or.inr h
  have hl : lv_has ls 5 [(0, .ref (ad 0)), (1, .int (nI i)), (2, .int (nI k)), (3, .ref (ad 88))] := hl
  obtain ⟨⟨wh, h0, hwh⟩, -⟩ := id hRC
  refine lv_aload_n hx hb dL_share_0 rfl (lv_at hl 3 rfl) ?_
  refine lv_iconst (v := nI 0) hx hb dL_share_1 (by decide) ?_
  refine lv_aload_n hx hb dL_share_2 rfl (lv_at hl 0 rfl) ?_
  refine lv_iload_n hx hb dL_share_3 rfl (lv_at hl 1 rfl) ?_
  refine lv_iload_n hx hb dL_share_4 rfl (lv_at hl 2 rfl) ?_
  refine x_caught (As := [.int (nI i), .int (nI k)]) (rest := [.int (nI 0), .ref (ad 88)]) hC vf_L_29 hw hA hT (by decide) h0 rfl rfl (c_shareS l hl0 n t cl qu en kp dl ou cp ks pt co sh vs hok hRC i k hi1 hi2 hk1 hk2 hdl) ⟨rfl, rfl, Nat.le_of_ble_eq_true rfl, Nat.le_of_ble_eq_true rfl⟩ hl.1 (Nat.le_of_ble_eq_true rfl) dL_share_5 ⟨Nat.le_of_ble_eq_true rfl, Nat.le_of_ble_eq_true rfl⟩ rfl (hpc := 17) (Or.inr ⟨⟨0, 10, 13, 13⟩, ⟨0, 10, 17, 19⟩, [], "java/lang/IllegalArgumentException", "java/lang/IllegalStateException", htab, by decide, by decide, (hts _ (List.mem_of_getElem? (i := 74) (by decide +kernel))), hT.2.1, by decide, by decide, (hts _ (List.mem_of_getElem? (i := 120) (by decide +kernel))), (hT.1.2.2.2.1 "java/lang/IllegalStateException" (by decide)), rfl⟩) (fun q9 H locs hw => ?_)
  refine lv_astore (lv' := [(4, .ref q9), (0, .ref (ad 0)), (1, .int (nI i)), (2, .int (nI k)), (3, .ref (ad 88))]) hx hb dL_share_17 hl (by decide) rfl (fun ls hl => ?_)
  refine lv_iconst (v := nI 2) hx hb dL_share_19 (by decide) ?_
  exact x_hret hx hb hr hlocks hw rfl dL_share_20
set_option maxHeartbeats 4000000 in
set_option maxRecDepth 100000 in
theorem h_isRightA (l : Launch) (hl0 : l.stackTraces = false) {D : va_G} {cI cJ cZ cD : ClassId} {ad : Nat → Nat} {w : Nat → va_E} {sz : Nat} {sa : Nat → Nat} (n t cl qu en kp : Nat) (dl ou cp ks pt : Nat → Nat) (co sh : Nat → Nat → Nat) (vs : Nat → Int64) (hok : OkS n t cl qu en kp dl ou cp ks pt co sh) (hRC : RC ad cI cJ cD w n t cl qu en kp dl ou cp ks pt co sh vs) (x y z : Int32) (hbad : ¬ (isNd n x ∧ isNd n y ∧ isEx z)) : MH l yL_isRight (.codeWith yL_isRight cL_isRight 6 (some .int) [(0, 19, 22, 13), (0, 19, 26, 19)]) ({ frames := 10, cells := 1, slots := 6, locals := 370 }) [.ref (ad 0), .int x, .int y, .int z, .ref (ad 88)] D (tyL cI cJ cZ cD) ad 89 w sz sa (some (.int (nI 1))) (fun u => u = w) 1 6 := by
  refine MH.of (by decide) (Nat.le_of_ble_eq_true rfl) ?_
  intro p e s m below meth c ls hC hr hlocks htab hl hw hT
  obtain ⟨hx, hb, hml, hown, hts⟩ := id hC
  have hA : ∀ q, s.heap.size ≤ q → xA ad 89 s.heap.size q := fun q h => Or.inr h
  have hl : lv_has ls 6 [(0, .ref (ad 0)), (1, .int x), (2, .int y), (3, .int z), (4, .ref (ad 88))] := hl
  obtain ⟨⟨wh, h0, hwh⟩, -⟩ := id hRC
  refine lv_aload hx hb dL_isRight_0 (lv_at hl 4 rfl) ?_
  refine lv_iconst (v := nI 0) hx hb dL_isRight_2 (by decide) ?_
  refine lv_aload_n hx hb dL_isRight_3 rfl (lv_at hl 0 rfl) ?_
  refine lv_iload_n hx hb dL_isRight_4 rfl (lv_at hl 1 rfl) ?_
  refine lv_iload_n hx hb dL_isRight_5 rfl (lv_at hl 2 rfl) ?_
  refine lv_iload_n hx hb dL_isRight_6 rfl (lv_at hl 3 rfl) ?_
  refine x_caught (As := [.int x, .int y, .int z]) (rest := [.int (nI 0), .ref (ad 88)]) hC vf_L_32 hw hA hT (by decide) h0 rfl rfl (c_isRightA l hl0 n t cl qu en kp dl ou cp ks pt co sh vs hok hRC x y z hbad) ⟨rfl, rfl, Nat.le_of_ble_eq_true rfl, Nat.le_of_ble_eq_true rfl⟩ hl.1 (Nat.le_of_ble_eq_true rfl) dL_isRight_7 ⟨Nat.le_of_ble_eq_true rfl, Nat.le_of_ble_eq_true rfl⟩ rfl (hpc := 22) (Or.inl ⟨⟨0, 19, 22, 13⟩, [⟨0, 19, 26, 19⟩], "java/lang/IllegalArgumentException", htab, by decide, by decide, (hts _ (List.mem_of_getElem? (i := 74) (by decide +kernel))), (hT.1.2.2.2.1 "java/lang/IllegalArgumentException" (by decide)), rfl⟩) (fun q9 H locs hw => ?_)
  refine lv_astore (lv' := [(5, .ref q9), (0, .ref (ad 0)), (1, .int x), (2, .int y), (3, .int z), (4, .ref (ad 88))]) hx hb dL_isRight_22 hl (by decide) rfl (fun ls hl => ?_)
  refine lv_iconst (v := nI 1) hx hb dL_isRight_24 (by decide) ?_
  exact x_hret hx hb hr hlocks hw rfl dL_isRight_25
set_option maxHeartbeats 4000000 in
set_option maxRecDepth 100000 in
theorem h_isRightY (l : Launch) {D : va_G} {cI cJ cZ cD : ClassId} {ad : Nat → Nat} {w : Nat → va_E} {sz : Nat} {sa : Nat → Nat} (n t cl qu en kp : Nat) (dl ou cp ks pt : Nat → Nat) (co sh : Nat → Nat → Nat) (vs : Nat → Int64) (hok : OkS n t cl qu en kp dl ou cp ks pt co sh) (hRC : RC ad cI cJ cD w n t cl qu en kp dl ou cp ks pt co sh vs) (i k : Nat) (hi1 : 1 ≤ i) (hi2 : i ≤ n) (hk1 : 1 ≤ k) (hk2 : k ≤ n) (x : Nat) (hx0 : x < 1073741789) (hdl : dl i = 1) (hq9 : x = rgt (co i) t k) (ofn : Nat → Int64) (hOut : w 88 = .inl (cJ, 1, .inr (.inl ofn))) : MH l yL_isRight (.codeWith yL_isRight cL_isRight 6 (some .int) [(0, 19, 22, 13), (0, 19, 26, 19)]) ({ frames := 10, cells := 0, slots := 0, locals := 370 }) [.ref (ad 0), .int (nI i), .int (nI k), .int (nI x), .ref (ad 88)] D (tyL cI cJ cZ cD) ad 89 w sz sa (some (.int (nI 0))) (fun u => ((∀ z, 76 < z → z ≠ 88 → u z = w z) ∧ RC ad cI cJ cD u n t cl qu en kp dl ou cp ks pt co sh vs) ∧ u 88 = .inl (cJ, 1, .inr (.inl (vp_updL ofn 0 (lN 1))))) 0 0 := by
  refine MH.of (by decide) (Nat.le_of_ble_eq_true rfl) ?_
  intro p e s m below meth c ls hC hr hlocks htab hl hw hT
  obtain ⟨hx, hb, hml, hown, hts⟩ := id hC
  have hA : ∀ q, s.heap.size ≤ q → xA ad 89 s.heap.size q := fun q h => Or.inr h
  have hl : lv_has ls 6 [(0, .ref (ad 0)), (1, .int (nI i)), (2, .int (nI k)), (3, .int (nI x)), (4, .ref (ad 88))] := hl
  obtain ⟨⟨wh, h0, hwh⟩, -⟩ := id hRC
  refine lv_aload hx hb dL_isRight_0 (lv_at hl 4 rfl) ?_
  refine lv_iconst (v := nI 0) hx hb dL_isRight_2 (by decide) ?_
  refine lv_aload_n hx hb dL_isRight_3 rfl (lv_at hl 0 rfl) ?_
  refine lv_iload_n hx hb dL_isRight_4 rfl (lv_at hl 1 rfl) ?_
  refine lv_iload_n hx hb dL_isRight_5 rfl (lv_at hl 2 rfl) ?_
  refine lv_iload_n hx hb dL_isRight_6 rfl (lv_at hl 3 rfl) ?_
  refine x_callW1 (As := [.int (nI i), .int (nI k), .int (nI x)]) (rest := [.int (nI 0), .ref (ad 88)]) hC vf_L_32 hw hA (by decide) h0 rfl rfl (c_isRight l n t cl qu en kp dl ou cp ks pt co sh vs hok hRC i k hi1 hi2 hk1 hk2 x hx0 hdl) ⟨rfl, rfl, Nat.le_of_ble_eq_true rfl, Nat.le_of_ble_eq_true rfl⟩ hl.1 (Nat.le_of_ble_eq_true rfl) dL_isRight_7 ⟨Nat.zero_le _, Nat.zero_le _⟩ rfl (fun w_1 H locs hu9 hw => ?_)
  rw [hu9] at hw
  rw [if_pos hq9]
  refine lv_if_eq (tgt := 17) hx hb dL_isRight_10 (by decide) (fun q_2 => absurd q_2 (by decide)) (fun q_2 => ?_)
  refine lv_lconst (v := lN 1) hx hb dL_isRight_13 (by decide) ?_
  refine lv_goto (tgt := 18) hx hb dL_isRight_14 (by decide) ?_
  refine x_last hx hb hw (by decide) 1 hOut rfl (j := 0) (by omega) (by decide) dL_isRight_18 (fun w_3 H locs ew_4 hw => ?_)
  have hc_5 : w_3 0 = .inr (3, [.ref (ad 1), .ref (ad 70), .ref (ad 71), .ref (ad 72), .ref (ad 76), .int (nI n), .int (nI t), .int (nI cl), .int (nI qu), .int wh]) := by rw [ew_4]; exact (va_up_ne _ _ (by omega)).trans h0
  have hc_6 : w_3 88 = .inl (cJ, 1, .inr (.inl (vp_updL ofn 0 (lN 1)))) := by rw [ew_4]; exact va_up_self _ _ _
  refine lv_goto (tgt := 30) hx hb dL_isRight_19 (by decide) ?_
  refine lv_iconst (v := nI 0) hx hb dL_isRight_30 (by decide) ?_
  exact x_hret hx hb hr hlocks hw ⟨⟨fun z _ h2 => by rw [ew_4]; exact va_up_ne _ _ h2, RC.of hRC (fun z hz => by rw [ew_4]; exact va_up_ne _ _ (by omega))⟩, hc_6⟩ dL_isRight_31
set_option maxHeartbeats 4000000 in
set_option maxRecDepth 100000 in
theorem h_isRightN (l : Launch) {D : va_G} {cI cJ cZ cD : ClassId} {ad : Nat → Nat} {w : Nat → va_E} {sz : Nat} {sa : Nat → Nat} (n t cl qu en kp : Nat) (dl ou cp ks pt : Nat → Nat) (co sh : Nat → Nat → Nat) (vs : Nat → Int64) (hok : OkS n t cl qu en kp dl ou cp ks pt co sh) (hRC : RC ad cI cJ cD w n t cl qu en kp dl ou cp ks pt co sh vs) (i k : Nat) (hi1 : 1 ≤ i) (hi2 : i ≤ n) (hk1 : 1 ≤ k) (hk2 : k ≤ n) (x : Nat) (hx0 : x < 1073741789) (hdl : dl i = 1) (hq9 : ¬ x = rgt (co i) t k) (ofn : Nat → Int64) (hOut : w 88 = .inl (cJ, 1, .inr (.inl ofn))) : MH l yL_isRight (.codeWith yL_isRight cL_isRight 6 (some .int) [(0, 19, 22, 13), (0, 19, 26, 19)]) ({ frames := 10, cells := 0, slots := 0, locals := 370 }) [.ref (ad 0), .int (nI i), .int (nI k), .int (nI x), .ref (ad 88)] D (tyL cI cJ cZ cD) ad 89 w sz sa (some (.int (nI 0))) (fun u => ((∀ z, 76 < z → z ≠ 88 → u z = w z) ∧ RC ad cI cJ cD u n t cl qu en kp dl ou cp ks pt co sh vs) ∧ u 88 = .inl (cJ, 1, .inr (.inl (vp_updL ofn 0 (lN 0))))) 0 0 := by
  refine MH.of (by decide) (Nat.le_of_ble_eq_true rfl) ?_
  intro p e s m below meth c ls hC hr hlocks htab hl hw hT
  obtain ⟨hx, hb, hml, hown, hts⟩ := id hC
  have hA : ∀ q, s.heap.size ≤ q → xA ad 89 s.heap.size q := fun q h => Or.inr h
  have hl : lv_has ls 6 [(0, .ref (ad 0)), (1, .int (nI i)), (2, .int (nI k)), (3, .int (nI x)), (4, .ref (ad 88))] := hl
  obtain ⟨⟨wh, h0, hwh⟩, -⟩ := id hRC
  refine lv_aload hx hb dL_isRight_0 (lv_at hl 4 rfl) ?_
  refine lv_iconst (v := nI 0) hx hb dL_isRight_2 (by decide) ?_
  refine lv_aload_n hx hb dL_isRight_3 rfl (lv_at hl 0 rfl) ?_
  refine lv_iload_n hx hb dL_isRight_4 rfl (lv_at hl 1 rfl) ?_
  refine lv_iload_n hx hb dL_isRight_5 rfl (lv_at hl 2 rfl) ?_
  refine lv_iload_n hx hb dL_isRight_6 rfl (lv_at hl 3 rfl) ?_
  refine x_callW1 (As := [.int (nI i), .int (nI k), .int (nI x)]) (rest := [.int (nI 0), .ref (ad 88)]) hC vf_L_32 hw hA (by decide) h0 rfl rfl (c_isRight l n t cl qu en kp dl ou cp ks pt co sh vs hok hRC i k hi1 hi2 hk1 hk2 x hx0 hdl) ⟨rfl, rfl, Nat.le_of_ble_eq_true rfl, Nat.le_of_ble_eq_true rfl⟩ hl.1 (Nat.le_of_ble_eq_true rfl) dL_isRight_7 ⟨Nat.zero_le _, Nat.zero_le _⟩ rfl (fun w_1 H locs hu9 hw => ?_)
  rw [hu9] at hw
  rw [if_neg hq9]
  refine lv_if_eq (tgt := 17) hx hb dL_isRight_10 (by decide) (fun q_2 => ?_) (fun q_2 => absurd (by decide) q_2)
  refine lv_lconst (v := lN 0) hx hb dL_isRight_17 (by decide) ?_
  refine x_last hx hb hw (by decide) 1 hOut rfl (j := 0) (by omega) (by decide) dL_isRight_18 (fun w_3 H locs ew_4 hw => ?_)
  have hc_5 : w_3 0 = .inr (3, [.ref (ad 1), .ref (ad 70), .ref (ad 71), .ref (ad 72), .ref (ad 76), .int (nI n), .int (nI t), .int (nI cl), .int (nI qu), .int wh]) := by rw [ew_4]; exact (va_up_ne _ _ (by omega)).trans h0
  have hc_6 : w_3 88 = .inl (cJ, 1, .inr (.inl (vp_updL ofn 0 (lN 0)))) := by rw [ew_4]; exact va_up_self _ _ _
  refine lv_goto (tgt := 30) hx hb dL_isRight_19 (by decide) ?_
  refine lv_iconst (v := nI 0) hx hb dL_isRight_30 (by decide) ?_
  exact x_hret hx hb hr hlocks hw ⟨⟨fun z _ h2 => by rw [ew_4]; exact va_up_ne _ _ h2, RC.of hRC (fun z hz => by rw [ew_4]; exact va_up_ne _ _ (by omega))⟩, hc_6⟩ dL_isRight_31
set_option maxHeartbeats 4000000 in
set_option maxRecDepth 100000 in
theorem h_isRightS (l : Launch) (hl0 : l.stackTraces = false) {D : va_G} {cI cJ cZ cD : ClassId} {ad : Nat → Nat} {w : Nat → va_E} {sz : Nat} {sa : Nat → Nat} (n t cl qu en kp : Nat) (dl ou cp ks pt : Nat → Nat) (co sh : Nat → Nat → Nat) (vs : Nat → Int64) (hok : OkS n t cl qu en kp dl ou cp ks pt co sh) (hRC : RC ad cI cJ cD w n t cl qu en kp dl ou cp ks pt co sh vs) (i k : Nat) (hi1 : 1 ≤ i) (hi2 : i ≤ n) (hk1 : 1 ≤ k) (hk2 : k ≤ n) (x : Nat) (hx0 : x < 1073741789) (hdl : dl i = 0) : MH l yL_isRight (.codeWith yL_isRight cL_isRight 6 (some .int) [(0, 19, 22, 13), (0, 19, 26, 19)]) ({ frames := 10, cells := 1, slots := 6, locals := 370 }) [.ref (ad 0), .int (nI i), .int (nI k), .int (nI x), .ref (ad 88)] D (tyL cI cJ cZ cD) ad 89 w sz sa (some (.int (nI 2))) (fun u => u = w) 1 6 := by
  refine MH.of (by decide) (Nat.le_of_ble_eq_true rfl) ?_
  intro p e s m below meth c ls hC hr hlocks htab hl hw hT
  obtain ⟨hx, hb, hml, hown, hts⟩ := id hC
  have hA : ∀ q, s.heap.size ≤ q → xA ad 89 s.heap.size q := fun q h => Or.inr h
  have hl : lv_has ls 6 [(0, .ref (ad 0)), (1, .int (nI i)), (2, .int (nI k)), (3, .int (nI x)), (4, .ref (ad 88))] := hl
  obtain ⟨⟨wh, h0, hwh⟩, -⟩ := id hRC
  refine lv_aload hx hb dL_isRight_0 (lv_at hl 4 rfl) ?_
  refine lv_iconst (v := nI 0) hx hb dL_isRight_2 (by decide) ?_
  refine lv_aload_n hx hb dL_isRight_3 rfl (lv_at hl 0 rfl) ?_
  refine lv_iload_n hx hb dL_isRight_4 rfl (lv_at hl 1 rfl) ?_
  refine lv_iload_n hx hb dL_isRight_5 rfl (lv_at hl 2 rfl) ?_
  refine lv_iload_n hx hb dL_isRight_6 rfl (lv_at hl 3 rfl) ?_
  refine x_caught (As := [.int (nI i), .int (nI k), .int (nI x)]) (rest := [.int (nI 0), .ref (ad 88)]) hC vf_L_32 hw hA hT (by decide) h0 rfl rfl (c_isRightS l hl0 n t cl qu en kp dl ou cp ks pt co sh vs hok hRC i k hi1 hi2 hk1 hk2 x hx0 hdl) ⟨rfl, rfl, Nat.le_of_ble_eq_true rfl, Nat.le_of_ble_eq_true rfl⟩ hl.1 (Nat.le_of_ble_eq_true rfl) dL_isRight_7 ⟨Nat.le_of_ble_eq_true rfl, Nat.le_of_ble_eq_true rfl⟩ rfl (hpc := 26) (Or.inr ⟨⟨0, 19, 22, 13⟩, ⟨0, 19, 26, 19⟩, [], "java/lang/IllegalArgumentException", "java/lang/IllegalStateException", htab, by decide, by decide, (hts _ (List.mem_of_getElem? (i := 74) (by decide +kernel))), hT.2.1, by decide, by decide, (hts _ (List.mem_of_getElem? (i := 120) (by decide +kernel))), (hT.1.2.2.2.1 "java/lang/IllegalStateException" (by decide)), rfl⟩) (fun q9 H locs hw => ?_)
  refine lv_astore (lv' := [(5, .ref q9), (0, .ref (ad 0)), (1, .int (nI i)), (2, .int (nI k)), (3, .int (nI x)), (4, .ref (ad 88))]) hx hb dL_isRight_26 hl (by decide) rfl (fun ls hl => ?_)
  refine lv_iconst (v := nI 2) hx hb dL_isRight_28 (by decide) ?_
  exact x_hret hx hb hr hlocks hw rfl dL_isRight_29
set_option maxHeartbeats 4000000 in
set_option maxRecDepth 100000 in
theorem h_complain (l : Launch) {D : va_G} {cI cJ cZ cD : ClassId} {ad : Nat → Nat} {w : Nat → va_E} {sz : Nat} {sa : Nat → Nat} (n t cl qu en kp : Nat) (dl ou cp ks pt : Nat → Nat) (co sh : Nat → Nat → Nat) (vs : Nat → Int64) (hok : OkS n t cl qu en kp dl ou cp ks pt co sh) (hRC : RC ad cI cJ cD w n t cl qu en kp dl ou cp ks pt co sh vs) (hcl0 : cl = 0) (ofn : Nat → Int64) (hOut : w 88 = .inl (cJ, 1, .inr (.inl ofn))) : MH l yL_complain (.codeWith yL_complain cL_complain 3 (some .int) [(0, 8, 11, 19)]) ({ frames := 10, cells := 0, slots := 0, locals := 370 }) [.ref (ad 0), .ref (ad 88)] D (tyL cI cJ cZ cD) ad 89 w sz sa (some (.int (nI 0))) (fun u => ((∀ z, 76 < z → z ≠ 88 → u z = w z) ∧ RC ad cI cJ cD u n t cl qu en kp dl ou (fun i => if 1 ≤ i ∧ i ≤ n ∧ dl i = 1 then gath (cp i) (sh i) (rgt (co i) t) n else cp i) ks pt co sh vs) ∧ u 88 = .inl (cJ, 1, .inr (.inl (vp_updL ofn 0 ((nI (cnt (fun i => pcN ((fun i => if 1 ≤ i ∧ i ≤ n ∧ dl i = 1 then gath (cp i) (sh i) (rgt (co i) t) n else cp i) i)) n)).toInt64))))) 0 0 := by
  refine MH.of (by decide) (Nat.le_of_ble_eq_true rfl) ?_
  intro p e s m below meth c ls hC hr hlocks htab hl hw hT
  obtain ⟨hx, hb, hml, hown, hts⟩ := id hC
  have hA : ∀ q, s.heap.size ≤ q → xA ad 89 s.heap.size q := fun q h => Or.inr h
  have hl : lv_has ls 3 [(0, .ref (ad 0)), (1, .ref (ad 88))] := hl
  obtain ⟨⟨wh, h0, hwh⟩, -⟩ := id hRC
  refine lv_aload_n hx hb dL_complain_0 rfl (lv_at hl 1 rfl) ?_
  refine lv_iconst (v := nI 0) hx hb dL_complain_1 (by decide) ?_
  refine lv_aload_n hx hb dL_complain_2 rfl (lv_at hl 0 rfl) ?_
  refine x_callW1 (As := []) (rest := [.int (nI 0), .ref (ad 88)]) hC vf_L_36 hw hA (by decide) h0 rfl rfl (c_complain l n t cl qu en kp dl ou cp ks pt co sh vs hok hRC hcl0) ⟨rfl, rfl, Nat.le_of_ble_eq_true rfl, Nat.le_of_ble_eq_true rfl⟩ hl.1 (Nat.le_of_ble_eq_true rfl) dL_complain_3 ⟨Nat.zero_le _, Nat.zero_le _⟩ rfl (fun w_1 H locs hu9 hw => ?_)
  have hO2 : w_1 88 = .inl (cJ, 1, .inr (.inl ofn)) := (hu9.1 88 (by decide)).trans hOut
  refine lv_i2l hx hb dL_complain_6 rfl ?_
  refine x_last hx hb hw (by decide) 1 hO2 rfl (j := 0) (by omega) (by decide) dL_complain_7 (fun w_2 H locs ew_3 hw => ?_)
  have hc_4 : w_2 88 = .inl (cJ, 1, .inr (.inl (vp_updL ofn 0 ((nI (cnt (fun i => pcN ((fun i => if 1 ≤ i ∧ i ≤ n ∧ dl i = 1 then gath (cp i) (sh i) (rgt (co i) t) n else cp i) i)) n)).toInt64)))) := by rw [ew_3]; exact va_up_self _ _ _
  refine lv_goto (tgt := 14) hx hb dL_complain_8 (by decide) ?_
  refine lv_iconst (v := nI 0) hx hb dL_complain_14 (by decide) ?_
  exact x_hret hx hb hr hlocks hw ⟨⟨fun z h1 h2 => by rw [ew_3]; exact (va_up_ne _ _ h2).trans (hu9.1 z h1), RC.of hu9.2 (fun z hz => by rw [ew_3]; exact va_up_ne _ _ (by omega))⟩, hc_4⟩ dL_complain_15
set_option maxHeartbeats 4000000 in
set_option maxRecDepth 100000 in
theorem h_complainS (l : Launch) (hl0 : l.stackTraces = false) {D : va_G} {cI cJ cZ cD : ClassId} {ad : Nat → Nat} {w : Nat → va_E} {sz : Nat} {sa : Nat → Nat} (n t cl qu en kp : Nat) (dl ou cp ks pt : Nat → Nat) (co sh : Nat → Nat → Nat) (vs : Nat → Int64) (hok : OkS n t cl qu en kp dl ou cp ks pt co sh) (hRC : RC ad cI cJ cD w n t cl qu en kp dl ou cp ks pt co sh vs) (hcl0 : cl = 1) : MH l yL_complain (.codeWith yL_complain cL_complain 3 (some .int) [(0, 8, 11, 19)]) ({ frames := 10, cells := 1, slots := 6, locals := 370 }) [.ref (ad 0), .ref (ad 88)] D (tyL cI cJ cZ cD) ad 89 w sz sa (some (.int (nI 1))) (fun u => u = w) 1 6 := by
  refine MH.of (by decide) (Nat.le_of_ble_eq_true rfl) ?_
  intro p e s m below meth c ls hC hr hlocks htab hl hw hT
  obtain ⟨hx, hb, hml, hown, hts⟩ := id hC
  have hA : ∀ q, s.heap.size ≤ q → xA ad 89 s.heap.size q := fun q h => Or.inr h
  have hl : lv_has ls 3 [(0, .ref (ad 0)), (1, .ref (ad 88))] := hl
  obtain ⟨⟨wh, h0, hwh⟩, -⟩ := id hRC
  refine lv_aload_n hx hb dL_complain_0 rfl (lv_at hl 1 rfl) ?_
  refine lv_iconst (v := nI 0) hx hb dL_complain_1 (by decide) ?_
  refine lv_aload_n hx hb dL_complain_2 rfl (lv_at hl 0 rfl) ?_
  refine x_caught (As := []) (rest := [.int (nI 0), .ref (ad 88)]) hC vf_L_36 hw hA hT (by decide) h0 rfl rfl (c_complainS l hl0 n t cl qu en kp dl ou cp ks pt co sh vs hok hRC hcl0) ⟨rfl, rfl, Nat.le_of_ble_eq_true rfl, Nat.le_of_ble_eq_true rfl⟩ hl.1 (Nat.le_of_ble_eq_true rfl) dL_complain_3 ⟨Nat.le_of_ble_eq_true rfl, Nat.le_of_ble_eq_true rfl⟩ rfl (hpc := 11) (Or.inl ⟨⟨0, 8, 11, 19⟩, [], "java/lang/IllegalStateException", htab, by decide, by decide, (hts _ (List.mem_of_getElem? (i := 120) (by decide +kernel))), (hT.1.2.2.2.1 "java/lang/IllegalStateException" (by decide)), rfl⟩) (fun q9 H locs hw => ?_)
  refine lv_astore_n (lv' := [(2, .ref q9), (0, .ref (ad 0)), (1, .ref (ad 88))]) hx hb dL_complain_11 rfl hl (by decide) rfl (fun ls hl => ?_)
  refine lv_iconst (v := nI 1) hx hb dL_complain_12 (by decide) ?_
  exact x_hret hx hb hr hlocks hw rfl dL_complain_13
set_option maxHeartbeats 4000000 in
set_option maxRecDepth 100000 in
theorem h_answerA (l : Launch) (hl0 : l.stackTraces = false) {D : va_G} {cI cJ cZ cD : ClassId} {ad : Nat → Nat} {w : Nat → va_E} {sz : Nat} {sa : Nat → Nat} (n t cl qu en kp : Nat) (dl ou cp ks pt : Nat → Nat) (co sh : Nat → Nat → Nat) (vs : Nat → Int64) (hok : OkS n t cl qu en kp dl ou cp ks pt co sh) (hRC : RC ad cI cJ cD w n t cl qu en kp dl ou cp ks pt co sh vs) (x y z : Int32) (hbad : ¬ (isNd n x ∧ isNd n y ∧ isEx z)) : MH l yL_answer (.codeWith yL_answer cL_answer 6 (some .int) [(0, 19, 22, 13), (0, 19, 26, 19)]) ({ frames := 10, cells := 1, slots := 6, locals := 370 }) [.ref (ad 0), .int x, .int y, .int z, .ref (ad 88)] D (tyL cI cJ cZ cD) ad 89 w sz sa (some (.int (nI 1))) (fun u => u = w) 1 6 := by
  refine MH.of (by decide) (Nat.le_of_ble_eq_true rfl) ?_
  intro p e s m below meth c ls hC hr hlocks htab hl hw hT
  obtain ⟨hx, hb, hml, hown, hts⟩ := id hC
  have hA : ∀ q, s.heap.size ≤ q → xA ad 89 s.heap.size q := fun q h => Or.inr h
  have hl : lv_has ls 6 [(0, .ref (ad 0)), (1, .int x), (2, .int y), (3, .int z), (4, .ref (ad 88))] := hl
  obtain ⟨⟨wh, h0, hwh⟩, -⟩ := id hRC
  refine lv_aload hx hb dL_answer_0 (lv_at hl 4 rfl) ?_
  refine lv_iconst (v := nI 0) hx hb dL_answer_2 (by decide) ?_
  refine lv_aload_n hx hb dL_answer_3 rfl (lv_at hl 0 rfl) ?_
  refine lv_iload_n hx hb dL_answer_4 rfl (lv_at hl 1 rfl) ?_
  refine lv_iload_n hx hb dL_answer_5 rfl (lv_at hl 2 rfl) ?_
  refine lv_iload_n hx hb dL_answer_6 rfl (lv_at hl 3 rfl) ?_
  refine x_caught (As := [.int x, .int y, .int z]) (rest := [.int (nI 0), .ref (ad 88)]) hC vf_L_40 hw hA hT (by decide) h0 rfl rfl (c_answerA l hl0 n t cl qu en kp dl ou cp ks pt co sh vs hok hRC x y z hbad) ⟨rfl, rfl, Nat.le_of_ble_eq_true rfl, Nat.le_of_ble_eq_true rfl⟩ hl.1 (Nat.le_of_ble_eq_true rfl) dL_answer_7 ⟨Nat.le_of_ble_eq_true rfl, Nat.le_of_ble_eq_true rfl⟩ rfl (hpc := 22) (Or.inl ⟨⟨0, 19, 22, 13⟩, [⟨0, 19, 26, 19⟩], "java/lang/IllegalArgumentException", htab, by decide, by decide, (hts _ (List.mem_of_getElem? (i := 74) (by decide +kernel))), (hT.1.2.2.2.1 "java/lang/IllegalArgumentException" (by decide)), rfl⟩) (fun q9 H locs hw => ?_)
  refine lv_astore (lv' := [(5, .ref q9), (0, .ref (ad 0)), (1, .int x), (2, .int y), (3, .int z), (4, .ref (ad 88))]) hx hb dL_answer_22 hl (by decide) rfl (fun ls hl => ?_)
  refine lv_iconst (v := nI 1) hx hb dL_answer_24 (by decide) ?_
  exact x_hret hx hb hr hlocks hw rfl dL_answer_25
set_option maxHeartbeats 4000000 in
set_option maxRecDepth 100000 in
theorem h_answerY (l : Launch) {D : va_G} {cI cJ cZ cD : ClassId} {ad : Nat → Nat} {w : Nat → va_E} {sz : Nat} {sa : Nat → Nat} (n t cl qu en kp : Nat) (dl ou cp ks pt : Nat → Nat) (co sh : Nat → Nat → Nat) (vs : Nat → Int64) (hok : OkS n t cl qu en kp dl ou cp ks pt co sh) (hRC : RC ad cI cJ cD w n t cl qu en kp dl ou cp ks pt co sh vs) (i k : Nat) (hi1 : 1 ≤ i) (hi2 : i ≤ n) (hk1 : 1 ≤ k) (hk2 : k ≤ n) (x : Nat) (hx0 : x < 1073741789) (hcl0 : cl = 0) (hcp0 : tb (cp i) k = 1) (hxp : x = 0) (ofn : Nat → Int64) (hOut : w 88 = .inl (cJ, 1, .inr (.inl ofn))) : MH l yL_answer (.codeWith yL_answer cL_answer 6 (some .int) [(0, 19, 22, 13), (0, 19, 26, 19)]) ({ frames := 10, cells := 0, slots := 0, locals := 370 }) [.ref (ad 0), .int (nI i), .int (nI k), .int (nI x), .ref (ad 88)] D (tyL cI cJ cZ cD) ad 89 w sz sa (some (.int (nI 0))) (fun u => ((∀ z, 76 < z → z ≠ 88 → u z = w z) ∧ RC ad cI cJ cD u n t cl qu en kp dl ou (va_up cp i (clr (cp i) k)) ks pt co (va_up sh i (va_up (sh i) k (rgt (co i) t k))) vs) ∧ u 88 = .inl (cJ, 1, .inr (.inl (vp_updL ofn 0 (lN 1))))) 0 0 := by
  refine MH.of (by decide) (Nat.le_of_ble_eq_true rfl) ?_
  intro p e s m below meth c ls hC hr hlocks htab hl hw hT
  obtain ⟨hx, hb, hml, hown, hts⟩ := id hC
  have hA : ∀ q, s.heap.size ≤ q → xA ad 89 s.heap.size q := fun q h => Or.inr h
  have hl : lv_has ls 6 [(0, .ref (ad 0)), (1, .int (nI i)), (2, .int (nI k)), (3, .int (nI x)), (4, .ref (ad 88))] := hl
  obtain ⟨⟨wh, h0, hwh⟩, -⟩ := id hRC
  refine lv_aload hx hb dL_answer_0 (lv_at hl 4 rfl) ?_
  refine lv_iconst (v := nI 0) hx hb dL_answer_2 (by decide) ?_
  refine lv_aload_n hx hb dL_answer_3 rfl (lv_at hl 0 rfl) ?_
  refine lv_iload_n hx hb dL_answer_4 rfl (lv_at hl 1 rfl) ?_
  refine lv_iload_n hx hb dL_answer_5 rfl (lv_at hl 2 rfl) ?_
  refine lv_iload_n hx hb dL_answer_6 rfl (lv_at hl 3 rfl) ?_
  refine x_callW1 (As := [.int (nI i), .int (nI k), .int (nI x)]) (rest := [.int (nI 0), .ref (ad 88)]) hC vf_L_40 hw hA (by decide) h0 rfl rfl (c_answerY l n t cl qu en kp dl ou cp ks pt co sh vs hok hRC i k hi1 hi2 hk1 hk2 x hx0 hcl0 hcp0 hxp) ⟨rfl, rfl, Nat.le_of_ble_eq_true rfl, Nat.le_of_ble_eq_true rfl⟩ hl.1 (Nat.le_of_ble_eq_true rfl) dL_answer_7 ⟨Nat.zero_le _, Nat.zero_le _⟩ rfl (fun w_1 H locs hu9 hw => ?_)
  have hO2 : w_1 88 = .inl (cJ, 1, .inr (.inl ofn)) := (hu9.1 88 (by decide)).trans hOut
  refine lv_if_eq (tgt := 17) hx hb dL_answer_10 (by decide) (fun q_2 => absurd q_2 (by decide)) (fun q_2 => ?_)
  refine lv_lconst (v := lN 1) hx hb dL_answer_13 (by decide) ?_
  refine lv_goto (tgt := 18) hx hb dL_answer_14 (by decide) ?_
  refine x_last hx hb hw (by decide) 1 hO2 rfl (j := 0) (by omega) (by decide) dL_answer_18 (fun w_3 H locs ew_4 hw => ?_)
  have hc_5 : w_3 88 = .inl (cJ, 1, .inr (.inl (vp_updL ofn 0 (lN 1)))) := by rw [ew_4]; exact va_up_self _ _ _
  refine lv_goto (tgt := 30) hx hb dL_answer_19 (by decide) ?_
  refine lv_iconst (v := nI 0) hx hb dL_answer_30 (by decide) ?_
  exact x_hret hx hb hr hlocks hw ⟨⟨fun z h1 h2 => by rw [ew_4]; exact (va_up_ne _ _ h2).trans (hu9.1 z h1), RC.of hu9.2 (fun z hz => by rw [ew_4]; exact va_up_ne _ _ (by omega))⟩, hc_5⟩ dL_answer_31
set_option maxHeartbeats 4000000 in
set_option maxRecDepth 100000 in
theorem h_answerN (l : Launch) {D : va_G} {cI cJ cZ cD : ClassId} {ad : Nat → Nat} {w : Nat → va_E} {sz : Nat} {sa : Nat → Nat} (n t cl qu en kp : Nat) (dl ou cp ks pt : Nat → Nat) (co sh : Nat → Nat → Nat) (vs : Nat → Int64) (hok : OkS n t cl qu en kp dl ou cp ks pt co sh) (hRC : RC ad cI cJ cD w n t cl qu en kp dl ou cp ks pt co sh vs) (i k : Nat) (hi1 : 1 ≤ i) (hi2 : i ≤ n) (hk1 : 1 ≤ k) (hk2 : k ≤ n) (x : Nat) (hx0 : x < 1073741789) (hcl0 : cl = 0) (hcp0 : tb (cp i) k = 1) (hxp : 0 < x) (ofn : Nat → Int64) (hOut : w 88 = .inl (cJ, 1, .inr (.inl ofn))) : MH l yL_answer (.codeWith yL_answer cL_answer 6 (some .int) [(0, 19, 22, 13), (0, 19, 26, 19)]) ({ frames := 10, cells := 0, slots := 0, locals := 370 }) [.ref (ad 0), .int (nI i), .int (nI k), .int (nI x), .ref (ad 88)] D (tyL cI cJ cZ cD) ad 89 w sz sa (some (.int (nI 0))) (fun u => ((∀ z, 76 < z → z ≠ 88 → u z = w z) ∧ RC ad cI cJ cD u n t cl qu en kp dl (va_up ou i 1) cp ks pt co sh vs) ∧ u 88 = .inl (cJ, 1, .inr (.inl (vp_updL ofn 0 (lN 0))))) 0 0 := by
  refine MH.of (by decide) (Nat.le_of_ble_eq_true rfl) ?_
  intro p e s m below meth c ls hC hr hlocks htab hl hw hT
  obtain ⟨hx, hb, hml, hown, hts⟩ := id hC
  have hA : ∀ q, s.heap.size ≤ q → xA ad 89 s.heap.size q := fun q h => Or.inr h
  have hl : lv_has ls 6 [(0, .ref (ad 0)), (1, .int (nI i)), (2, .int (nI k)), (3, .int (nI x)), (4, .ref (ad 88))] := hl
  obtain ⟨⟨wh, h0, hwh⟩, -⟩ := id hRC
  refine lv_aload hx hb dL_answer_0 (lv_at hl 4 rfl) ?_
  refine lv_iconst (v := nI 0) hx hb dL_answer_2 (by decide) ?_
  refine lv_aload_n hx hb dL_answer_3 rfl (lv_at hl 0 rfl) ?_
  refine lv_iload_n hx hb dL_answer_4 rfl (lv_at hl 1 rfl) ?_
  refine lv_iload_n hx hb dL_answer_5 rfl (lv_at hl 2 rfl) ?_
  refine lv_iload_n hx hb dL_answer_6 rfl (lv_at hl 3 rfl) ?_
  refine x_callW1 (As := [.int (nI i), .int (nI k), .int (nI x)]) (rest := [.int (nI 0), .ref (ad 88)]) hC vf_L_40 hw hA (by decide) h0 rfl rfl (c_answerN l n t cl qu en kp dl ou cp ks pt co sh vs hok hRC i k hi1 hi2 hk1 hk2 x hx0 hcl0 hcp0 hxp) ⟨rfl, rfl, Nat.le_of_ble_eq_true rfl, Nat.le_of_ble_eq_true rfl⟩ hl.1 (Nat.le_of_ble_eq_true rfl) dL_answer_7 ⟨Nat.zero_le _, Nat.zero_le _⟩ rfl (fun w_1 H locs hu9 hw => ?_)
  have hO2 : w_1 88 = .inl (cJ, 1, .inr (.inl ofn)) := (hu9.1 88 (by decide)).trans hOut
  refine lv_if_eq (tgt := 17) hx hb dL_answer_10 (by decide) (fun q_2 => ?_) (fun q_2 => absurd (by decide) q_2)
  refine lv_lconst (v := lN 0) hx hb dL_answer_17 (by decide) ?_
  refine x_last hx hb hw (by decide) 1 hO2 rfl (j := 0) (by omega) (by decide) dL_answer_18 (fun w_3 H locs ew_4 hw => ?_)
  have hc_5 : w_3 88 = .inl (cJ, 1, .inr (.inl (vp_updL ofn 0 (lN 0)))) := by rw [ew_4]; exact va_up_self _ _ _
  refine lv_goto (tgt := 30) hx hb dL_answer_19 (by decide) ?_
  refine lv_iconst (v := nI 0) hx hb dL_answer_30 (by decide) ?_
  exact x_hret hx hb hr hlocks hw ⟨⟨fun z h1 h2 => by rw [ew_4]; exact (va_up_ne _ _ h2).trans (hu9.1 z h1), RC.of hu9.2 (fun z hz => by rw [ew_4]; exact va_up_ne _ _ (by omega))⟩, hc_5⟩ dL_answer_31
set_option maxHeartbeats 4000000 in
set_option maxRecDepth 100000 in
theorem h_answerS1 (l : Launch) (hl0 : l.stackTraces = false) {D : va_G} {cI cJ cZ cD : ClassId} {ad : Nat → Nat} {w : Nat → va_E} {sz : Nat} {sa : Nat → Nat} (n t cl qu en kp : Nat) (dl ou cp ks pt : Nat → Nat) (co sh : Nat → Nat → Nat) (vs : Nat → Int64) (hok : OkS n t cl qu en kp dl ou cp ks pt co sh) (hRC : RC ad cI cJ cD w n t cl qu en kp dl ou cp ks pt co sh vs) (i k : Nat) (hi1 : 1 ≤ i) (hi2 : i ≤ n) (hk1 : 1 ≤ k) (hk2 : k ≤ n) (x : Nat) (hx0 : x < 1073741789) (hcl0 : cl = 1) : MH l yL_answer (.codeWith yL_answer cL_answer 6 (some .int) [(0, 19, 22, 13), (0, 19, 26, 19)]) ({ frames := 10, cells := 1, slots := 6, locals := 370 }) [.ref (ad 0), .int (nI i), .int (nI k), .int (nI x), .ref (ad 88)] D (tyL cI cJ cZ cD) ad 89 w sz sa (some (.int (nI 2))) (fun u => u = w) 1 6 := by
  refine MH.of (by decide) (Nat.le_of_ble_eq_true rfl) ?_
  intro p e s m below meth c ls hC hr hlocks htab hl hw hT
  obtain ⟨hx, hb, hml, hown, hts⟩ := id hC
  have hA : ∀ q, s.heap.size ≤ q → xA ad 89 s.heap.size q := fun q h => Or.inr h
  have hl : lv_has ls 6 [(0, .ref (ad 0)), (1, .int (nI i)), (2, .int (nI k)), (3, .int (nI x)), (4, .ref (ad 88))] := hl
  obtain ⟨⟨wh, h0, hwh⟩, -⟩ := id hRC
  refine lv_aload hx hb dL_answer_0 (lv_at hl 4 rfl) ?_
  refine lv_iconst (v := nI 0) hx hb dL_answer_2 (by decide) ?_
  refine lv_aload_n hx hb dL_answer_3 rfl (lv_at hl 0 rfl) ?_
  refine lv_iload_n hx hb dL_answer_4 rfl (lv_at hl 1 rfl) ?_
  refine lv_iload_n hx hb dL_answer_5 rfl (lv_at hl 2 rfl) ?_
  refine lv_iload_n hx hb dL_answer_6 rfl (lv_at hl 3 rfl) ?_
  refine x_caught (As := [.int (nI i), .int (nI k), .int (nI x)]) (rest := [.int (nI 0), .ref (ad 88)]) hC vf_L_40 hw hA hT (by decide) h0 rfl rfl (c_answerS1 l hl0 n t cl qu en kp dl ou cp ks pt co sh vs hok hRC i k hi1 hi2 hk1 hk2 x hx0 hcl0) ⟨rfl, rfl, Nat.le_of_ble_eq_true rfl, Nat.le_of_ble_eq_true rfl⟩ hl.1 (Nat.le_of_ble_eq_true rfl) dL_answer_7 ⟨Nat.le_of_ble_eq_true rfl, Nat.le_of_ble_eq_true rfl⟩ rfl (hpc := 26) (Or.inr ⟨⟨0, 19, 22, 13⟩, ⟨0, 19, 26, 19⟩, [], "java/lang/IllegalArgumentException", "java/lang/IllegalStateException", htab, by decide, by decide, (hts _ (List.mem_of_getElem? (i := 74) (by decide +kernel))), hT.2.1, by decide, by decide, (hts _ (List.mem_of_getElem? (i := 120) (by decide +kernel))), (hT.1.2.2.2.1 "java/lang/IllegalStateException" (by decide)), rfl⟩) (fun q9 H locs hw => ?_)
  refine lv_astore (lv' := [(5, .ref q9), (0, .ref (ad 0)), (1, .int (nI i)), (2, .int (nI k)), (3, .int (nI x)), (4, .ref (ad 88))]) hx hb dL_answer_26 hl (by decide) rfl (fun ls hl => ?_)
  refine lv_iconst (v := nI 2) hx hb dL_answer_28 (by decide) ?_
  exact x_hret hx hb hr hlocks hw rfl dL_answer_29
set_option maxHeartbeats 4000000 in
set_option maxRecDepth 100000 in
theorem h_answerS2 (l : Launch) (hl0 : l.stackTraces = false) {D : va_G} {cI cJ cZ cD : ClassId} {ad : Nat → Nat} {w : Nat → va_E} {sz : Nat} {sa : Nat → Nat} (n t cl qu en kp : Nat) (dl ou cp ks pt : Nat → Nat) (co sh : Nat → Nat → Nat) (vs : Nat → Int64) (hok : OkS n t cl qu en kp dl ou cp ks pt co sh) (hRC : RC ad cI cJ cD w n t cl qu en kp dl ou cp ks pt co sh vs) (i k : Nat) (hi1 : 1 ≤ i) (hi2 : i ≤ n) (hk1 : 1 ≤ k) (hk2 : k ≤ n) (x : Nat) (hx0 : x < 1073741789) (hcl0 : cl = 0) (hcp0 : ¬ tb (cp i) k = 1) : MH l yL_answer (.codeWith yL_answer cL_answer 6 (some .int) [(0, 19, 22, 13), (0, 19, 26, 19)]) ({ frames := 10, cells := 1, slots := 6, locals := 370 }) [.ref (ad 0), .int (nI i), .int (nI k), .int (nI x), .ref (ad 88)] D (tyL cI cJ cZ cD) ad 89 w sz sa (some (.int (nI 2))) (fun u => u = w) 1 6 := by
  refine MH.of (by decide) (Nat.le_of_ble_eq_true rfl) ?_
  intro p e s m below meth c ls hC hr hlocks htab hl hw hT
  obtain ⟨hx, hb, hml, hown, hts⟩ := id hC
  have hA : ∀ q, s.heap.size ≤ q → xA ad 89 s.heap.size q := fun q h => Or.inr h
  have hl : lv_has ls 6 [(0, .ref (ad 0)), (1, .int (nI i)), (2, .int (nI k)), (3, .int (nI x)), (4, .ref (ad 88))] := hl
  obtain ⟨⟨wh, h0, hwh⟩, -⟩ := id hRC
  refine lv_aload hx hb dL_answer_0 (lv_at hl 4 rfl) ?_
  refine lv_iconst (v := nI 0) hx hb dL_answer_2 (by decide) ?_
  refine lv_aload_n hx hb dL_answer_3 rfl (lv_at hl 0 rfl) ?_
  refine lv_iload_n hx hb dL_answer_4 rfl (lv_at hl 1 rfl) ?_
  refine lv_iload_n hx hb dL_answer_5 rfl (lv_at hl 2 rfl) ?_
  refine lv_iload_n hx hb dL_answer_6 rfl (lv_at hl 3 rfl) ?_
  refine x_caught (As := [.int (nI i), .int (nI k), .int (nI x)]) (rest := [.int (nI 0), .ref (ad 88)]) hC vf_L_40 hw hA hT (by decide) h0 rfl rfl (c_answerS2 l hl0 n t cl qu en kp dl ou cp ks pt co sh vs hok hRC i k hi1 hi2 hk1 hk2 x hx0 hcl0 hcp0) ⟨rfl, rfl, Nat.le_of_ble_eq_true rfl, Nat.le_of_ble_eq_true rfl⟩ hl.1 (Nat.le_of_ble_eq_true rfl) dL_answer_7 ⟨Nat.le_of_ble_eq_true rfl, Nat.le_of_ble_eq_true rfl⟩ rfl (hpc := 26) (Or.inr ⟨⟨0, 19, 22, 13⟩, ⟨0, 19, 26, 19⟩, [], "java/lang/IllegalArgumentException", "java/lang/IllegalStateException", htab, by decide, by decide, (hts _ (List.mem_of_getElem? (i := 74) (by decide +kernel))), hT.2.1, by decide, by decide, (hts _ (List.mem_of_getElem? (i := 120) (by decide +kernel))), (hT.1.2.2.2.1 "java/lang/IllegalStateException" (by decide)), rfl⟩) (fun q9 H locs hw => ?_)
  refine lv_astore (lv' := [(5, .ref q9), (0, .ref (ad 0)), (1, .int (nI i)), (2, .int (nI k)), (3, .int (nI x)), (4, .ref (ad 88))]) hx hb dL_answer_26 hl (by decide) rfl (fun ls hl => ?_)
  refine lv_iconst (v := nI 2) hx hb dL_answer_28 (by decide) ?_
  exact x_hret hx hb hr hlocks hw rfl dL_answer_29
set_option maxHeartbeats 4000000 in
set_option maxRecDepth 100000 in
theorem h_close (l : Launch) {D : va_G} {cI cJ cZ cD : ClassId} {ad : Nat → Nat} {w : Nat → va_E} {sz : Nat} {sa : Nat → Nat} (n t cl qu en kp : Nat) (dl ou cp ks pt : Nat → Nat) (co sh : Nat → Nat → Nat) (vs : Nat → Int64) (hok : OkS n t cl qu en kp dl ou cp ks pt co sh) (hRC : RC ad cI cJ cD w n t cl qu en kp dl ou cp ks pt co sh vs) (z : Int64) (hcl0 : cl = 0) (hq0 : qf dl ou cp n ≠ 0) (ht1 : 1 ≤ t) (ofn : Nat → Int64) (hOut : w 88 = .inl (cJ, 1, .inr (.inl ofn))) : MH l yL_close (.codeWith yL_close cL_close 5 (some .int) [(0, 9, 12, 19)]) ({ frames := 10, cells := 0, slots := 0, locals := 370 }) [.ref (ad 0), .long z, .ref (ad 88)] D (tyL cI cJ cZ cD) ad 89 w sz sa (some (.int (nI 0))) (fun u => ((∀ z, 76 < z → z ≠ 88 → u z = w z) ∧ RC ad cI cJ cD u n t 1 (qf dl ou cp n) 0 0 dl ou cp (ksF (qf dl ou cp n) co sh n) pt co sh (vp_updL vs 0 z)) ∧ u 88 = .inl (cJ, 1, .inr (.inl (vp_updL ofn 0 ((nI (pcN (qf dl ou cp n))).toInt64))))) 0 0 := by
  refine MH.of (by decide) (Nat.le_of_ble_eq_true rfl) ?_
  intro p e s m below meth c ls hC hr hlocks htab hl hw hT
  obtain ⟨hx, hb, hml, hown, hts⟩ := id hC
  have hA : ∀ q, s.heap.size ≤ q → xA ad 89 s.heap.size q := fun q h => Or.inr h
  have hl : lv_has ls 5 [(0, .ref (ad 0)), (1, .long z), (3, .ref (ad 88))] := hl
  obtain ⟨⟨wh, h0, hwh⟩, -⟩ := id hRC
  refine lv_aload_n hx hb dL_close_0 rfl (lv_at hl 2 rfl) ?_
  refine lv_iconst (v := nI 0) hx hb dL_close_1 (by decide) ?_
  refine lv_aload_n hx hb dL_close_2 rfl (lv_at hl 0 rfl) ?_
  refine lv_lload_n hx hb dL_close_3 rfl (lv_at hl 1 rfl) ?_
  refine x_callW1 (As := [.long z]) (rest := [.int (nI 0), .ref (ad 88)]) hC vf_L_43 hw hA (by decide) h0 rfl rfl (c_close l n t cl qu en kp dl ou cp ks pt co sh vs hok hRC z hcl0 hq0 ht1) ⟨rfl, rfl, Nat.le_of_ble_eq_true rfl, Nat.le_of_ble_eq_true rfl⟩ hl.1 (Nat.le_of_ble_eq_true rfl) dL_close_4 ⟨Nat.zero_le _, Nat.zero_le _⟩ rfl (fun w_1 H locs hu9 hw => ?_)
  have hO2 : w_1 88 = .inl (cJ, 1, .inr (.inl ofn)) := (hu9.1 88 (by decide)).trans hOut
  refine lv_i2l hx hb dL_close_7 rfl ?_
  refine x_last hx hb hw (by decide) 1 hO2 rfl (j := 0) (by omega) (by decide) dL_close_8 (fun w_2 H locs ew_3 hw => ?_)
  have hc_4 : w_2 88 = .inl (cJ, 1, .inr (.inl (vp_updL ofn 0 ((nI (pcN (qf dl ou cp n))).toInt64)))) := by rw [ew_3]; exact va_up_self _ _ _
  refine lv_goto (tgt := 16) hx hb dL_close_9 (by decide) ?_
  refine lv_iconst (v := nI 0) hx hb dL_close_16 (by decide) ?_
  exact x_hret hx hb hr hlocks hw ⟨⟨fun z h1 h2 => by rw [ew_3]; exact (va_up_ne _ _ h2).trans (hu9.1 z h1), RC.of hu9.2 (fun z hz => by rw [ew_3]; exact va_up_ne _ _ (by omega))⟩, hc_4⟩ dL_close_17
set_option maxHeartbeats 4000000 in
set_option maxRecDepth 100000 in
theorem h_closeS1 (l : Launch) (hl0 : l.stackTraces = false) {D : va_G} {cI cJ cZ cD : ClassId} {ad : Nat → Nat} {w : Nat → va_E} {sz : Nat} {sa : Nat → Nat} (n t cl qu en kp : Nat) (dl ou cp ks pt : Nat → Nat) (co sh : Nat → Nat → Nat) (vs : Nat → Int64) (hok : OkS n t cl qu en kp dl ou cp ks pt co sh) (hRC : RC ad cI cJ cD w n t cl qu en kp dl ou cp ks pt co sh vs) (z : Int64) (hcl0 : cl = 1) : MH l yL_close (.codeWith yL_close cL_close 5 (some .int) [(0, 9, 12, 19)]) ({ frames := 10, cells := 1, slots := 6, locals := 370 }) [.ref (ad 0), .long z, .ref (ad 88)] D (tyL cI cJ cZ cD) ad 89 w sz sa (some (.int (nI 1))) (fun u => u = w) 1 6 := by
  refine MH.of (by decide) (Nat.le_of_ble_eq_true rfl) ?_
  intro p e s m below meth c ls hC hr hlocks htab hl hw hT
  obtain ⟨hx, hb, hml, hown, hts⟩ := id hC
  have hA : ∀ q, s.heap.size ≤ q → xA ad 89 s.heap.size q := fun q h => Or.inr h
  have hl : lv_has ls 5 [(0, .ref (ad 0)), (1, .long z), (3, .ref (ad 88))] := hl
  obtain ⟨⟨wh, h0, hwh⟩, -⟩ := id hRC
  refine lv_aload_n hx hb dL_close_0 rfl (lv_at hl 2 rfl) ?_
  refine lv_iconst (v := nI 0) hx hb dL_close_1 (by decide) ?_
  refine lv_aload_n hx hb dL_close_2 rfl (lv_at hl 0 rfl) ?_
  refine lv_lload_n hx hb dL_close_3 rfl (lv_at hl 1 rfl) ?_
  refine x_caught (As := [.long z]) (rest := [.int (nI 0), .ref (ad 88)]) hC vf_L_43 hw hA hT (by decide) h0 rfl rfl (c_closeS1 l hl0 n t cl qu en kp dl ou cp ks pt co sh vs hok hRC z hcl0) ⟨rfl, rfl, Nat.le_of_ble_eq_true rfl, Nat.le_of_ble_eq_true rfl⟩ hl.1 (Nat.le_of_ble_eq_true rfl) dL_close_4 ⟨Nat.le_of_ble_eq_true rfl, Nat.le_of_ble_eq_true rfl⟩ rfl (hpc := 12) (Or.inl ⟨⟨0, 9, 12, 19⟩, [], "java/lang/IllegalStateException", htab, by decide, by decide, (hts _ (List.mem_of_getElem? (i := 120) (by decide +kernel))), (hT.1.2.2.2.1 "java/lang/IllegalStateException" (by decide)), rfl⟩) (fun q9 H locs hw => ?_)
  refine lv_astore (lv' := [(4, .ref q9), (0, .ref (ad 0)), (1, .long z), (3, .ref (ad 88))]) hx hb dL_close_12 hl (by decide) rfl (fun ls hl => ?_)
  refine lv_iconst (v := nI 1) hx hb dL_close_14 (by decide) ?_
  exact x_hret hx hb hr hlocks hw rfl dL_close_15
set_option maxHeartbeats 4000000 in
set_option maxRecDepth 100000 in
theorem h_closeS2 (l : Launch) (hl0 : l.stackTraces = false) {D : va_G} {cI cJ cZ cD : ClassId} {ad : Nat → Nat} {w : Nat → va_E} {sz : Nat} {sa : Nat → Nat} (n t cl qu en kp : Nat) (dl ou cp ks pt : Nat → Nat) (co sh : Nat → Nat → Nat) (vs : Nat → Int64) (hok : OkS n t cl qu en kp dl ou cp ks pt co sh) (hRC : RC ad cI cJ cD w n t cl qu en kp dl ou cp ks pt co sh vs) (z : Int64) (hcl0 : cl = 0) (hq0 : qf dl ou cp n = 0) : MH l yL_close (.codeWith yL_close cL_close 5 (some .int) [(0, 9, 12, 19)]) ({ frames := 10, cells := 1, slots := 6, locals := 370 }) [.ref (ad 0), .long z, .ref (ad 88)] D (tyL cI cJ cZ cD) ad 89 w sz sa (some (.int (nI 1))) (fun u => u = w) 1 6 := by
  refine MH.of (by decide) (Nat.le_of_ble_eq_true rfl) ?_
  intro p e s m below meth c ls hC hr hlocks htab hl hw hT
  obtain ⟨hx, hb, hml, hown, hts⟩ := id hC
  have hA : ∀ q, s.heap.size ≤ q → xA ad 89 s.heap.size q := fun q h => Or.inr h
  have hl : lv_has ls 5 [(0, .ref (ad 0)), (1, .long z), (3, .ref (ad 88))] := hl
  obtain ⟨⟨wh, h0, hwh⟩, -⟩ := id hRC
  refine lv_aload_n hx hb dL_close_0 rfl (lv_at hl 2 rfl) ?_
  refine lv_iconst (v := nI 0) hx hb dL_close_1 (by decide) ?_
  refine lv_aload_n hx hb dL_close_2 rfl (lv_at hl 0 rfl) ?_
  refine lv_lload_n hx hb dL_close_3 rfl (lv_at hl 1 rfl) ?_
  refine x_caught (As := [.long z]) (rest := [.int (nI 0), .ref (ad 88)]) hC vf_L_43 hw hA hT (by decide) h0 rfl rfl (c_closeS2 l hl0 n t cl qu en kp dl ou cp ks pt co sh vs hok hRC z hcl0 hq0) ⟨rfl, rfl, Nat.le_of_ble_eq_true rfl, Nat.le_of_ble_eq_true rfl⟩ hl.1 (Nat.le_of_ble_eq_true rfl) dL_close_4 ⟨Nat.le_of_ble_eq_true rfl, Nat.le_of_ble_eq_true rfl⟩ rfl (hpc := 12) (Or.inl ⟨⟨0, 9, 12, 19⟩, [], "java/lang/IllegalStateException", htab, by decide, by decide, (hts _ (List.mem_of_getElem? (i := 120) (by decide +kernel))), (hT.1.2.2.2.1 "java/lang/IllegalStateException" (by decide)), rfl⟩) (fun q9 H locs hw => ?_)
  refine lv_astore (lv' := [(4, .ref q9), (0, .ref (ad 0)), (1, .long z), (3, .ref (ad 88))]) hx hb dL_close_12 hl (by decide) rfl (fun ls hl => ?_)
  refine lv_iconst (v := nI 1) hx hb dL_close_14 (by decide) ?_
  exact x_hret hx hb hr hlocks hw rfl dL_close_15
set_option maxHeartbeats 4000000 in
set_option maxRecDepth 100000 in
theorem h_key0 (l : Launch) {D : va_G} {cI cJ cZ cD : ClassId} {ad : Nat → Nat} {w : Nat → va_E} {sz : Nat} {sa : Nat → Nat} (n t cl qu en kp : Nat) (dl ou cp ks pt : Nat → Nat) (co sh : Nat → Nat → Nat) (vs : Nat → Int64) (hok : OkS n t cl qu en kp dl ou cp ks pt co sh) (hRC : RC ad cI cJ cD w n t cl qu en kp dl ou cp ks pt co sh vs) (hcl0 : cl = 1) (ofn : Nat → Int64) (hOut : w 88 = .inl (cJ, 1, .inr (.inl ofn))) : MH l yL_key (.codeWith yL_key cL_key 5 (some .int) [(0, 10, 13, 13), (0, 10, 17, 19)]) ({ frames := 10, cells := 0, slots := 0, locals := 370 }) [.ref (ad 0), .int (nI 0), .int (nI 1), .ref (ad 88)] D (tyL cI cJ cZ cD) ad 89 w sz sa (some (.int (nI 0))) (fun u => ((∀ z, 76 < z → z ≠ 88 → u z = w z) ∧ RC ad cI cJ cD u n t cl qu en kp dl ou cp ks pt co sh vs) ∧ u 88 = .inl (cJ, 1, .inr (.inl (vp_updL ofn 0 ((nI (4 ^ ks 0 % 2147483579)).toInt64))))) 0 0 := by
  refine MH.of (by decide) (Nat.le_of_ble_eq_true rfl) ?_
  intro p e s m below meth c ls hC hr hlocks htab hl hw hT
  obtain ⟨hx, hb, hml, hown, hts⟩ := id hC
  have hA : ∀ q, s.heap.size ≤ q → xA ad 89 s.heap.size q := fun q h => Or.inr h
  have hl : lv_has ls 5 [(0, .ref (ad 0)), (1, .int (nI 0)), (2, .int (nI 1)), (3, .ref (ad 88))] := hl
  obtain ⟨⟨wh, h0, hwh⟩, -⟩ := id hRC
  refine lv_aload_n hx hb dL_key_0 rfl (lv_at hl 3 rfl) ?_
  refine lv_iconst (v := nI 0) hx hb dL_key_1 (by decide) ?_
  refine lv_aload_n hx hb dL_key_2 rfl (lv_at hl 0 rfl) ?_
  refine lv_iload_n hx hb dL_key_3 rfl (lv_at hl 1 rfl) ?_
  refine lv_iload_n hx hb dL_key_4 rfl (lv_at hl 2 rfl) ?_
  refine x_callW1 (As := [.int (nI 0), .int (nI 1)]) (rest := [.int (nI 0), .ref (ad 88)]) hC vf_L_47 hw hA (by decide) h0 rfl rfl (c_key0 l n t cl qu en kp dl ou cp ks pt co sh vs hok hRC hcl0) ⟨rfl, rfl, Nat.le_of_ble_eq_true rfl, Nat.le_of_ble_eq_true rfl⟩ hl.1 (Nat.le_of_ble_eq_true rfl) dL_key_5 ⟨Nat.zero_le _, Nat.zero_le _⟩ rfl (fun w_1 H locs hu9 hw => ?_)
  rw [hu9] at hw
  refine lv_i2l hx hb dL_key_8 rfl ?_
  refine x_last hx hb hw (by decide) 1 hOut rfl (j := 0) (by omega) (by decide) dL_key_9 (fun w_2 H locs ew_3 hw => ?_)
  have hc_4 : w_2 0 = .inr (3, [.ref (ad 1), .ref (ad 70), .ref (ad 71), .ref (ad 72), .ref (ad 76), .int (nI n), .int (nI t), .int (nI cl), .int (nI qu), .int wh]) := by rw [ew_3]; exact (va_up_ne _ _ (by omega)).trans h0
  have hc_5 : w_2 88 = .inl (cJ, 1, .inr (.inl (vp_updL ofn 0 ((nI (4 ^ ks 0 % 2147483579)).toInt64)))) := by rw [ew_3]; exact va_up_self _ _ _
  refine lv_goto (tgt := 21) hx hb dL_key_10 (by decide) ?_
  refine lv_iconst (v := nI 0) hx hb dL_key_21 (by decide) ?_
  exact x_hret hx hb hr hlocks hw ⟨⟨fun z _ h2 => by rw [ew_3]; exact va_up_ne _ _ h2, RC.of hRC (fun z hz => by rw [ew_3]; exact va_up_ne _ _ (by omega))⟩, hc_5⟩ dL_key_22
set_option maxHeartbeats 4000000 in
set_option maxRecDepth 100000 in
theorem h_keyN0 (l : Launch) {D : va_G} {cI cJ cZ cD : ClassId} {ad : Nat → Nat} {w : Nat → va_E} {sz : Nat} {sa : Nat → Nat} (n t cl qu en kp : Nat) (dl ou cp ks pt : Nat → Nat) (co sh : Nat → Nat → Nat) (vs : Nat → Int64) (hok : OkS n t cl qu en kp dl ou cp ks pt co sh) (hRC : RC ad cI cJ cD w n t cl qu en kp dl ou cp ks pt co sh vs) (k : Nat) (hk1 : 1 ≤ k) (hk2 : k ≤ n) (hcl0 : cl = 1) (ofn : Nat → Int64) (hOut : w 88 = .inl (cJ, 1, .inr (.inl ofn))) : MH l yL_key (.codeWith yL_key cL_key 5 (some .int) [(0, 10, 13, 13), (0, 10, 17, 19)]) ({ frames := 10, cells := 0, slots := 0, locals := 370 }) [.ref (ad 0), .int (nI k), .int (nI 0), .ref (ad 88)] D (tyL cI cJ cZ cD) ad 89 w sz sa (some (.int (nI 0))) (fun u => ((∀ z, 76 < z → z ≠ 88 → u z = w z) ∧ RC ad cI cJ cD u n t cl qu en kp dl ou cp ks pt co sh vs) ∧ u 88 = .inl (cJ, 1, .inr (.inl (vp_updL ofn 0 ((nI (ks k)).toInt64))))) 0 0 := by
  refine MH.of (by decide) (Nat.le_of_ble_eq_true rfl) ?_
  intro p e s m below meth c ls hC hr hlocks htab hl hw hT
  obtain ⟨hx, hb, hml, hown, hts⟩ := id hC
  have hA : ∀ q, s.heap.size ≤ q → xA ad 89 s.heap.size q := fun q h => Or.inr h
  have hl : lv_has ls 5 [(0, .ref (ad 0)), (1, .int (nI k)), (2, .int (nI 0)), (3, .ref (ad 88))] := hl
  obtain ⟨⟨wh, h0, hwh⟩, -⟩ := id hRC
  refine lv_aload_n hx hb dL_key_0 rfl (lv_at hl 3 rfl) ?_
  refine lv_iconst (v := nI 0) hx hb dL_key_1 (by decide) ?_
  refine lv_aload_n hx hb dL_key_2 rfl (lv_at hl 0 rfl) ?_
  refine lv_iload_n hx hb dL_key_3 rfl (lv_at hl 1 rfl) ?_
  refine lv_iload_n hx hb dL_key_4 rfl (lv_at hl 2 rfl) ?_
  refine x_callW1 (As := [.int (nI k), .int (nI 0)]) (rest := [.int (nI 0), .ref (ad 88)]) hC vf_L_47 hw hA (by decide) h0 rfl rfl (c_keyN0 l n t cl qu en kp dl ou cp ks pt co sh vs hok hRC k hk1 hk2 hcl0) ⟨rfl, rfl, Nat.le_of_ble_eq_true rfl, Nat.le_of_ble_eq_true rfl⟩ hl.1 (Nat.le_of_ble_eq_true rfl) dL_key_5 ⟨Nat.zero_le _, Nat.zero_le _⟩ rfl (fun w_1 H locs hu9 hw => ?_)
  rw [hu9] at hw
  refine lv_i2l hx hb dL_key_8 rfl ?_
  refine x_last hx hb hw (by decide) 1 hOut rfl (j := 0) (by omega) (by decide) dL_key_9 (fun w_2 H locs ew_3 hw => ?_)
  have hc_4 : w_2 0 = .inr (3, [.ref (ad 1), .ref (ad 70), .ref (ad 71), .ref (ad 72), .ref (ad 76), .int (nI n), .int (nI t), .int (nI cl), .int (nI qu), .int wh]) := by rw [ew_3]; exact (va_up_ne _ _ (by omega)).trans h0
  have hc_5 : w_2 88 = .inl (cJ, 1, .inr (.inl (vp_updL ofn 0 ((nI (ks k)).toInt64)))) := by rw [ew_3]; exact va_up_self _ _ _
  refine lv_goto (tgt := 21) hx hb dL_key_10 (by decide) ?_
  refine lv_iconst (v := nI 0) hx hb dL_key_21 (by decide) ?_
  exact x_hret hx hb hr hlocks hw ⟨⟨fun z _ h2 => by rw [ew_3]; exact va_up_ne _ _ h2, RC.of hRC (fun z hz => by rw [ew_3]; exact va_up_ne _ _ (by omega))⟩, hc_5⟩ dL_key_22
set_option maxHeartbeats 4000000 in
set_option maxRecDepth 100000 in
theorem h_keyN1 (l : Launch) {D : va_G} {cI cJ cZ cD : ClassId} {ad : Nat → Nat} {w : Nat → va_E} {sz : Nat} {sa : Nat → Nat} (n t cl qu en kp : Nat) (dl ou cp ks pt : Nat → Nat) (co sh : Nat → Nat → Nat) (vs : Nat → Int64) (hok : OkS n t cl qu en kp dl ou cp ks pt co sh) (hRC : RC ad cI cJ cD w n t cl qu en kp dl ou cp ks pt co sh vs) (k : Nat) (hk1 : 1 ≤ k) (hk2 : k ≤ n) (hcl0 : cl = 1) (ofn : Nat → Int64) (hOut : w 88 = .inl (cJ, 1, .inr (.inl ofn))) : MH l yL_key (.codeWith yL_key cL_key 5 (some .int) [(0, 10, 13, 13), (0, 10, 17, 19)]) ({ frames := 10, cells := 0, slots := 0, locals := 370 }) [.ref (ad 0), .int (nI k), .int (nI 1), .ref (ad 88)] D (tyL cI cJ cZ cD) ad 89 w sz sa (some (.int (nI 0))) (fun u => ((∀ z, 76 < z → z ≠ 88 → u z = w z) ∧ RC ad cI cJ cD u n t cl qu en kp dl ou cp ks pt co sh vs) ∧ u 88 = .inl (cJ, 1, .inr (.inl (vp_updL ofn 0 ((nI (4 ^ ks k % 2147483579)).toInt64))))) 0 0 := by
  refine MH.of (by decide) (Nat.le_of_ble_eq_true rfl) ?_
  intro p e s m below meth c ls hC hr hlocks htab hl hw hT
  obtain ⟨hx, hb, hml, hown, hts⟩ := id hC
  have hA : ∀ q, s.heap.size ≤ q → xA ad 89 s.heap.size q := fun q h => Or.inr h
  have hl : lv_has ls 5 [(0, .ref (ad 0)), (1, .int (nI k)), (2, .int (nI 1)), (3, .ref (ad 88))] := hl
  obtain ⟨⟨wh, h0, hwh⟩, -⟩ := id hRC
  refine lv_aload_n hx hb dL_key_0 rfl (lv_at hl 3 rfl) ?_
  refine lv_iconst (v := nI 0) hx hb dL_key_1 (by decide) ?_
  refine lv_aload_n hx hb dL_key_2 rfl (lv_at hl 0 rfl) ?_
  refine lv_iload_n hx hb dL_key_3 rfl (lv_at hl 1 rfl) ?_
  refine lv_iload_n hx hb dL_key_4 rfl (lv_at hl 2 rfl) ?_
  refine x_callW1 (As := [.int (nI k), .int (nI 1)]) (rest := [.int (nI 0), .ref (ad 88)]) hC vf_L_47 hw hA (by decide) h0 rfl rfl (c_keyN1 l n t cl qu en kp dl ou cp ks pt co sh vs hok hRC k hk1 hk2 hcl0) ⟨rfl, rfl, Nat.le_of_ble_eq_true rfl, Nat.le_of_ble_eq_true rfl⟩ hl.1 (Nat.le_of_ble_eq_true rfl) dL_key_5 ⟨Nat.zero_le _, Nat.zero_le _⟩ rfl (fun w_1 H locs hu9 hw => ?_)
  rw [hu9] at hw
  refine lv_i2l hx hb dL_key_8 rfl ?_
  refine x_last hx hb hw (by decide) 1 hOut rfl (j := 0) (by omega) (by decide) dL_key_9 (fun w_2 H locs ew_3 hw => ?_)
  have hc_4 : w_2 0 = .inr (3, [.ref (ad 1), .ref (ad 70), .ref (ad 71), .ref (ad 72), .ref (ad 76), .int (nI n), .int (nI t), .int (nI cl), .int (nI qu), .int wh]) := by rw [ew_3]; exact (va_up_ne _ _ (by omega)).trans h0
  have hc_5 : w_2 88 = .inl (cJ, 1, .inr (.inl (vp_updL ofn 0 ((nI (4 ^ ks k % 2147483579)).toInt64)))) := by rw [ew_3]; exact va_up_self _ _ _
  refine lv_goto (tgt := 21) hx hb dL_key_10 (by decide) ?_
  refine lv_iconst (v := nI 0) hx hb dL_key_21 (by decide) ?_
  exact x_hret hx hb hr hlocks hw ⟨⟨fun z _ h2 => by rw [ew_3]; exact va_up_ne _ _ h2, RC.of hRC (fun z hz => by rw [ew_3]; exact va_up_ne _ _ (by omega))⟩, hc_5⟩ dL_key_22
set_option maxHeartbeats 4000000 in
set_option maxRecDepth 100000 in
theorem h_keyA (l : Launch) (hl0 : l.stackTraces = false) {D : va_G} {cI cJ cZ cD : ClassId} {ad : Nat → Nat} {w : Nat → va_E} {sz : Nat} {sa : Nat → Nat} (n t cl qu en kp : Nat) (dl ou cp ks pt : Nat → Nat) (co sh : Nat → Nat → Nat) (vs : Nat → Int64) (hok : OkS n t cl qu en kp dl ou cp ks pt co sh) (hRC : RC ad cI cJ cD w n t cl qu en kp dl ou cp ks pt co sh vs) (x y : Int32) (hb1 : ¬ (x = nI 0 ∧ y = nI 1)) (hb2 : ¬ (isNd n x ∧ ¬ y < 0 ∧ y ≤ nI 1)) : MH l yL_key (.codeWith yL_key cL_key 5 (some .int) [(0, 10, 13, 13), (0, 10, 17, 19)]) ({ frames := 10, cells := 1, slots := 6, locals := 370 }) [.ref (ad 0), .int x, .int y, .ref (ad 88)] D (tyL cI cJ cZ cD) ad 89 w sz sa (some (.int (nI 1))) (fun u => u = w) 1 6 := by
  refine MH.of (by decide) (Nat.le_of_ble_eq_true rfl) ?_
  intro p e s m below meth c ls hC hr hlocks htab hl hw hT
  obtain ⟨hx, hb, hml, hown, hts⟩ := id hC
  have hA : ∀ q, s.heap.size ≤ q → xA ad 89 s.heap.size q := fun q h => Or.inr h
  have hl : lv_has ls 5 [(0, .ref (ad 0)), (1, .int x), (2, .int y), (3, .ref (ad 88))] := hl
  obtain ⟨⟨wh, h0, hwh⟩, -⟩ := id hRC
  refine lv_aload_n hx hb dL_key_0 rfl (lv_at hl 3 rfl) ?_
  refine lv_iconst (v := nI 0) hx hb dL_key_1 (by decide) ?_
  refine lv_aload_n hx hb dL_key_2 rfl (lv_at hl 0 rfl) ?_
  refine lv_iload_n hx hb dL_key_3 rfl (lv_at hl 1 rfl) ?_
  refine lv_iload_n hx hb dL_key_4 rfl (lv_at hl 2 rfl) ?_
  refine x_caught (As := [.int x, .int y]) (rest := [.int (nI 0), .ref (ad 88)]) hC vf_L_47 hw hA hT (by decide) h0 rfl rfl (c_keyA l hl0 n t cl qu en kp dl ou cp ks pt co sh vs hok hRC x y hb1 hb2) ⟨rfl, rfl, Nat.le_of_ble_eq_true rfl, Nat.le_of_ble_eq_true rfl⟩ hl.1 (Nat.le_of_ble_eq_true rfl) dL_key_5 ⟨Nat.le_of_ble_eq_true rfl, Nat.le_of_ble_eq_true rfl⟩ rfl (hpc := 13) (Or.inl ⟨⟨0, 10, 13, 13⟩, [⟨0, 10, 17, 19⟩], "java/lang/IllegalArgumentException", htab, by decide, by decide, (hts _ (List.mem_of_getElem? (i := 74) (by decide +kernel))), (hT.1.2.2.2.1 "java/lang/IllegalArgumentException" (by decide)), rfl⟩) (fun q9 H locs hw => ?_)
  refine lv_astore (lv' := [(4, .ref q9), (0, .ref (ad 0)), (1, .int x), (2, .int y), (3, .ref (ad 88))]) hx hb dL_key_13 hl (by decide) rfl (fun ls hl => ?_)
  refine lv_iconst (v := nI 1) hx hb dL_key_15 (by decide) ?_
  exact x_hret hx hb hr hlocks hw rfl dL_key_16
set_option maxHeartbeats 4000000 in
set_option maxRecDepth 100000 in
theorem h_keyS0 (l : Launch) (hl0 : l.stackTraces = false) {D : va_G} {cI cJ cZ cD : ClassId} {ad : Nat → Nat} {w : Nat → va_E} {sz : Nat} {sa : Nat → Nat} (n t cl qu en kp : Nat) (dl ou cp ks pt : Nat → Nat) (co sh : Nat → Nat → Nat) (vs : Nat → Int64) (hok : OkS n t cl qu en kp dl ou cp ks pt co sh) (hRC : RC ad cI cJ cD w n t cl qu en kp dl ou cp ks pt co sh vs) (hcl0 : cl = 0) : MH l yL_key (.codeWith yL_key cL_key 5 (some .int) [(0, 10, 13, 13), (0, 10, 17, 19)]) ({ frames := 10, cells := 1, slots := 6, locals := 370 }) [.ref (ad 0), .int (nI 0), .int (nI 1), .ref (ad 88)] D (tyL cI cJ cZ cD) ad 89 w sz sa (some (.int (nI 2))) (fun u => u = w) 1 6 := by
  refine MH.of (by decide) (Nat.le_of_ble_eq_true rfl) ?_
  intro p e s m below meth c ls hC hr hlocks htab hl hw hT
  obtain ⟨hx, hb, hml, hown, hts⟩ := id hC
  have hA : ∀ q, s.heap.size ≤ q → xA ad 89 s.heap.size q := fun q h => Or.inr h
  have hl : lv_has ls 5 [(0, .ref (ad 0)), (1, .int (nI 0)), (2, .int (nI 1)), (3, .ref (ad 88))] := hl
  obtain ⟨⟨wh, h0, hwh⟩, -⟩ := id hRC
  refine lv_aload_n hx hb dL_key_0 rfl (lv_at hl 3 rfl) ?_
  refine lv_iconst (v := nI 0) hx hb dL_key_1 (by decide) ?_
  refine lv_aload_n hx hb dL_key_2 rfl (lv_at hl 0 rfl) ?_
  refine lv_iload_n hx hb dL_key_3 rfl (lv_at hl 1 rfl) ?_
  refine lv_iload_n hx hb dL_key_4 rfl (lv_at hl 2 rfl) ?_
  refine x_caught (As := [.int (nI 0), .int (nI 1)]) (rest := [.int (nI 0), .ref (ad 88)]) hC vf_L_47 hw hA hT (by decide) h0 rfl rfl (c_keyS0 l hl0 n t cl qu en kp dl ou cp ks pt co sh vs hok hRC hcl0) ⟨rfl, rfl, Nat.le_of_ble_eq_true rfl, Nat.le_of_ble_eq_true rfl⟩ hl.1 (Nat.le_of_ble_eq_true rfl) dL_key_5 ⟨Nat.le_of_ble_eq_true rfl, Nat.le_of_ble_eq_true rfl⟩ rfl (hpc := 17) (Or.inr ⟨⟨0, 10, 13, 13⟩, ⟨0, 10, 17, 19⟩, [], "java/lang/IllegalArgumentException", "java/lang/IllegalStateException", htab, by decide, by decide, (hts _ (List.mem_of_getElem? (i := 74) (by decide +kernel))), hT.2.1, by decide, by decide, (hts _ (List.mem_of_getElem? (i := 120) (by decide +kernel))), (hT.1.2.2.2.1 "java/lang/IllegalStateException" (by decide)), rfl⟩) (fun q9 H locs hw => ?_)
  refine lv_astore (lv' := [(4, .ref q9), (0, .ref (ad 0)), (1, .int (nI 0)), (2, .int (nI 1)), (3, .ref (ad 88))]) hx hb dL_key_17 hl (by decide) rfl (fun ls hl => ?_)
  refine lv_iconst (v := nI 2) hx hb dL_key_19 (by decide) ?_
  exact x_hret hx hb hr hlocks hw rfl dL_key_20
set_option maxHeartbeats 4000000 in
set_option maxRecDepth 100000 in
theorem h_keySN (l : Launch) (hl0 : l.stackTraces = false) {D : va_G} {cI cJ cZ cD : ClassId} {ad : Nat → Nat} {w : Nat → va_E} {sz : Nat} {sa : Nat → Nat} (n t cl qu en kp : Nat) (dl ou cp ks pt : Nat → Nat) (co sh : Nat → Nat → Nat) (vs : Nat → Int64) (hok : OkS n t cl qu en kp dl ou cp ks pt co sh) (hRC : RC ad cI cJ cD w n t cl qu en kp dl ou cp ks pt co sh vs) (k j : Nat) (hk1 : 1 ≤ k) (hk2 : k ≤ n) (hj : j ≤ 1) (hcl0 : cl = 0) : MH l yL_key (.codeWith yL_key cL_key 5 (some .int) [(0, 10, 13, 13), (0, 10, 17, 19)]) ({ frames := 10, cells := 1, slots := 6, locals := 370 }) [.ref (ad 0), .int (nI k), .int (nI j), .ref (ad 88)] D (tyL cI cJ cZ cD) ad 89 w sz sa (some (.int (nI 2))) (fun u => u = w) 1 6 := by
  refine MH.of (by decide) (Nat.le_of_ble_eq_true rfl) ?_
  intro p e s m below meth c ls hC hr hlocks htab hl hw hT
  obtain ⟨hx, hb, hml, hown, hts⟩ := id hC
  have hA : ∀ q, s.heap.size ≤ q → xA ad 89 s.heap.size q := fun q h => Or.inr h
  have hl : lv_has ls 5 [(0, .ref (ad 0)), (1, .int (nI k)), (2, .int (nI j)), (3, .ref (ad 88))] := hl
  obtain ⟨⟨wh, h0, hwh⟩, -⟩ := id hRC
  refine lv_aload_n hx hb dL_key_0 rfl (lv_at hl 3 rfl) ?_
  refine lv_iconst (v := nI 0) hx hb dL_key_1 (by decide) ?_
  refine lv_aload_n hx hb dL_key_2 rfl (lv_at hl 0 rfl) ?_
  refine lv_iload_n hx hb dL_key_3 rfl (lv_at hl 1 rfl) ?_
  refine lv_iload_n hx hb dL_key_4 rfl (lv_at hl 2 rfl) ?_
  refine x_caught (As := [.int (nI k), .int (nI j)]) (rest := [.int (nI 0), .ref (ad 88)]) hC vf_L_47 hw hA hT (by decide) h0 rfl rfl (c_keySN l hl0 n t cl qu en kp dl ou cp ks pt co sh vs hok hRC k j hk1 hk2 hj hcl0) ⟨rfl, rfl, Nat.le_of_ble_eq_true rfl, Nat.le_of_ble_eq_true rfl⟩ hl.1 (Nat.le_of_ble_eq_true rfl) dL_key_5 ⟨Nat.le_of_ble_eq_true rfl, Nat.le_of_ble_eq_true rfl⟩ rfl (hpc := 17) (Or.inr ⟨⟨0, 10, 13, 13⟩, ⟨0, 10, 17, 19⟩, [], "java/lang/IllegalArgumentException", "java/lang/IllegalStateException", htab, by decide, by decide, (hts _ (List.mem_of_getElem? (i := 74) (by decide +kernel))), hT.2.1, by decide, by decide, (hts _ (List.mem_of_getElem? (i := 120) (by decide +kernel))), (hT.1.2.2.2.1 "java/lang/IllegalStateException" (by decide)), rfl⟩) (fun q9 H locs hw => ?_)
  refine lv_astore (lv' := [(4, .ref q9), (0, .ref (ad 0)), (1, .int (nI k)), (2, .int (nI j)), (3, .ref (ad 88))]) hx hb dL_key_17 hl (by decide) rfl (fun ls hl => ?_)
  refine lv_iconst (v := nI 2) hx hb dL_key_19 (by decide) ?_
  exact x_hret hx hb hr hlocks hw rfl dL_key_20
set_option maxHeartbeats 4000000 in
set_option maxRecDepth 100000 in
theorem h_round0 (l : Launch) {D : va_G} {cI cJ cZ cD : ClassId} {ad : Nat → Nat} {w : Nat → va_E} {sz : Nat} {sa : Nat → Nat} (n t cl qu en kp : Nat) (dl ou cp ks pt : Nat → Nat) (co sh : Nat → Nat → Nat) (vs : Nat → Int64) (hok : OkS n t cl qu en kp dl ou cp ks pt co sh) (hRC : RC ad cI cJ cD w n t cl qu en kp dl ou cp ks pt co sh vs) (hcl0 : cl = 1) (ofn : Nat → Int64) (hOut : w 88 = .inl (cJ, 1, .inr (.inl ofn))) : MH l yL_round (.codeWith yL_round cL_round 4 (some .int) [(0, 9, 12, 19), (0, 9, 15, 13)]) ({ frames := 10, cells := 0, slots := 0, locals := 370 }) [.ref (ad 0), .int (nI 0), .ref (ad 88)] D (tyL cI cJ cZ cD) ad 89 w sz sa (some (.int (nI 0))) (fun u => ((∀ z, 76 < z → z ≠ 88 → u z = w z) ∧ RC ad cI cJ cD u n t cl qu en kp dl ou cp ks pt co sh vs) ∧ u 88 = .inl (cJ, 1, .inr (.inl (vp_updL ofn 0 ((nI (en + 1)).toInt64))))) 0 0 := by
  refine MH.of (by decide) (Nat.le_of_ble_eq_true rfl) ?_
  intro p e s m below meth c ls hC hr hlocks htab hl hw hT
  obtain ⟨hx, hb, hml, hown, hts⟩ := id hC
  have hA : ∀ q, s.heap.size ≤ q → xA ad 89 s.heap.size q := fun q h => Or.inr h
  have hl : lv_has ls 4 [(0, .ref (ad 0)), (1, .int (nI 0)), (2, .ref (ad 88))] := hl
  obtain ⟨⟨wh, h0, hwh⟩, -⟩ := id hRC
  refine lv_aload_n hx hb dL_round_0 rfl (lv_at hl 2 rfl) ?_
  refine lv_iconst (v := nI 0) hx hb dL_round_1 (by decide) ?_
  refine lv_aload_n hx hb dL_round_2 rfl (lv_at hl 0 rfl) ?_
  refine lv_iload_n hx hb dL_round_3 rfl (lv_at hl 1 rfl) ?_
  refine x_callW1 (As := [.int (nI 0)]) (rest := [.int (nI 0), .ref (ad 88)]) hC vf_L_50 hw hA (by decide) h0 rfl rfl (c_round0 l n t cl qu en kp dl ou cp ks pt co sh vs hok hRC hcl0) ⟨rfl, rfl, Nat.le_of_ble_eq_true rfl, Nat.le_of_ble_eq_true rfl⟩ hl.1 (Nat.le_of_ble_eq_true rfl) dL_round_4 ⟨Nat.zero_le _, Nat.zero_le _⟩ rfl (fun w_1 H locs hu9 hw => ?_)
  rw [hu9] at hw
  refine lv_i2l hx hb dL_round_7 rfl ?_
  refine x_last hx hb hw (by decide) 1 hOut rfl (j := 0) (by omega) (by decide) dL_round_8 (fun w_2 H locs ew_3 hw => ?_)
  have hc_4 : w_2 0 = .inr (3, [.ref (ad 1), .ref (ad 70), .ref (ad 71), .ref (ad 72), .ref (ad 76), .int (nI n), .int (nI t), .int (nI cl), .int (nI qu), .int wh]) := by rw [ew_3]; exact (va_up_ne _ _ (by omega)).trans h0
  have hc_5 : w_2 88 = .inl (cJ, 1, .inr (.inl (vp_updL ofn 0 ((nI (en + 1)).toInt64)))) := by rw [ew_3]; exact va_up_self _ _ _
  refine lv_goto (tgt := 18) hx hb dL_round_9 (by decide) ?_
  refine lv_iconst (v := nI 0) hx hb dL_round_18 (by decide) ?_
  exact x_hret hx hb hr hlocks hw ⟨⟨fun z _ h2 => by rw [ew_3]; exact va_up_ne _ _ h2, RC.of hRC (fun z hz => by rw [ew_3]; exact va_up_ne _ _ (by omega))⟩, hc_5⟩ dL_round_19
set_option maxHeartbeats 4000000 in
set_option maxRecDepth 100000 in
theorem h_round1 (l : Launch) {D : va_G} {cI cJ cZ cD : ClassId} {ad : Nat → Nat} {w : Nat → va_E} {sz : Nat} {sa : Nat → Nat} (n t cl qu en kp : Nat) (dl ou cp ks pt : Nat → Nat) (co sh : Nat → Nat → Nat) (vs : Nat → Int64) (hok : OkS n t cl qu en kp dl ou cp ks pt co sh) (hRC : RC ad cI cJ cD w n t cl qu en kp dl ou cp ks pt co sh vs) (hcl0 : cl = 1) (ofn : Nat → Int64) (hOut : w 88 = .inl (cJ, 1, .inr (.inl ofn))) : MH l yL_round (.codeWith yL_round cL_round 4 (some .int) [(0, 9, 12, 19), (0, 9, 15, 13)]) ({ frames := 10, cells := 0, slots := 0, locals := 370 }) [.ref (ad 0), .int (nI 1), .ref (ad 88)] D (tyL cI cJ cZ cD) ad 89 w sz sa (some (.int (nI 0))) (fun u => ((∀ z, 76 < z → z ≠ 88 → u z = w z) ∧ RC ad cI cJ cD u n t cl qu en kp dl ou cp ks pt co sh vs) ∧ u 88 = .inl (cJ, 1, .inr (.inl (vp_updL ofn 0 ((nI (basF (msgF (vs en) en))).toInt64))))) 0 0 := by
  refine MH.of (by decide) (Nat.le_of_ble_eq_true rfl) ?_
  intro p e s m below meth c ls hC hr hlocks htab hl hw hT
  obtain ⟨hx, hb, hml, hown, hts⟩ := id hC
  have hA : ∀ q, s.heap.size ≤ q → xA ad 89 s.heap.size q := fun q h => Or.inr h
  have hl : lv_has ls 4 [(0, .ref (ad 0)), (1, .int (nI 1)), (2, .ref (ad 88))] := hl
  obtain ⟨⟨wh, h0, hwh⟩, -⟩ := id hRC
  refine lv_aload_n hx hb dL_round_0 rfl (lv_at hl 2 rfl) ?_
  refine lv_iconst (v := nI 0) hx hb dL_round_1 (by decide) ?_
  refine lv_aload_n hx hb dL_round_2 rfl (lv_at hl 0 rfl) ?_
  refine lv_iload_n hx hb dL_round_3 rfl (lv_at hl 1 rfl) ?_
  refine x_callW1 (As := [.int (nI 1)]) (rest := [.int (nI 0), .ref (ad 88)]) hC vf_L_50 hw hA (by decide) h0 rfl rfl (c_round1 l n t cl qu en kp dl ou cp ks pt co sh vs hok hRC hcl0) ⟨rfl, rfl, Nat.le_of_ble_eq_true rfl, Nat.le_of_ble_eq_true rfl⟩ hl.1 (Nat.le_of_ble_eq_true rfl) dL_round_4 ⟨Nat.zero_le _, Nat.zero_le _⟩ rfl (fun w_1 H locs hu9 hw => ?_)
  rw [hu9] at hw
  refine lv_i2l hx hb dL_round_7 rfl ?_
  refine x_last hx hb hw (by decide) 1 hOut rfl (j := 0) (by omega) (by decide) dL_round_8 (fun w_2 H locs ew_3 hw => ?_)
  have hc_4 : w_2 0 = .inr (3, [.ref (ad 1), .ref (ad 70), .ref (ad 71), .ref (ad 72), .ref (ad 76), .int (nI n), .int (nI t), .int (nI cl), .int (nI qu), .int wh]) := by rw [ew_3]; exact (va_up_ne _ _ (by omega)).trans h0
  have hc_5 : w_2 88 = .inl (cJ, 1, .inr (.inl (vp_updL ofn 0 ((nI (basF (msgF (vs en) en))).toInt64)))) := by rw [ew_3]; exact va_up_self _ _ _
  refine lv_goto (tgt := 18) hx hb dL_round_9 (by decide) ?_
  refine lv_iconst (v := nI 0) hx hb dL_round_18 (by decide) ?_
  exact x_hret hx hb hr hlocks hw ⟨⟨fun z _ h2 => by rw [ew_3]; exact va_up_ne _ _ h2, RC.of hRC (fun z hz => by rw [ew_3]; exact va_up_ne _ _ (by omega))⟩, hc_5⟩ dL_round_19
set_option maxHeartbeats 4000000 in
set_option maxRecDepth 100000 in
theorem h_round2 (l : Launch) {D : va_G} {cI cJ cZ cD : ClassId} {ad : Nat → Nat} {w : Nat → va_E} {sz : Nat} {sa : Nat → Nat} (n t cl qu en kp : Nat) (dl ou cp ks pt : Nat → Nat) (co sh : Nat → Nat → Nat) (vs : Nat → Int64) (hok : OkS n t cl qu en kp dl ou cp ks pt co sh) (hRC : RC ad cI cJ cD w n t cl qu en kp dl ou cp ks pt co sh vs) (hcl0 : cl = 1) (ofn : Nat → Int64) (hOut : w 88 = .inl (cJ, 1, .inr (.inl ofn))) : MH l yL_round (.codeWith yL_round cL_round 4 (some .int) [(0, 9, 12, 19), (0, 9, 15, 13)]) ({ frames := 10, cells := 0, slots := 0, locals := 370 }) [.ref (ad 0), .int (nI 2), .ref (ad 88)] D (tyL cI cJ cZ cD) ad 89 w sz sa (some (.int (nI 0))) (fun u => ((∀ z, 76 < z → z ≠ 88 → u z = w z) ∧ RC ad cI cJ cD u n t cl qu en kp dl ou cp ks pt co sh vs) ∧ u 88 = .inl (cJ, 1, .inr (.inl (vp_updL ofn 0 ((nI (pcN kp)).toInt64))))) 0 0 := by
  refine MH.of (by decide) (Nat.le_of_ble_eq_true rfl) ?_
  intro p e s m below meth c ls hC hr hlocks htab hl hw hT
  obtain ⟨hx, hb, hml, hown, hts⟩ := id hC
  have hA : ∀ q, s.heap.size ≤ q → xA ad 89 s.heap.size q := fun q h => Or.inr h
  have hl : lv_has ls 4 [(0, .ref (ad 0)), (1, .int (nI 2)), (2, .ref (ad 88))] := hl
  obtain ⟨⟨wh, h0, hwh⟩, -⟩ := id hRC
  refine lv_aload_n hx hb dL_round_0 rfl (lv_at hl 2 rfl) ?_
  refine lv_iconst (v := nI 0) hx hb dL_round_1 (by decide) ?_
  refine lv_aload_n hx hb dL_round_2 rfl (lv_at hl 0 rfl) ?_
  refine lv_iload_n hx hb dL_round_3 rfl (lv_at hl 1 rfl) ?_
  refine x_callW1 (As := [.int (nI 2)]) (rest := [.int (nI 0), .ref (ad 88)]) hC vf_L_50 hw hA (by decide) h0 rfl rfl (c_round2 l n t cl qu en kp dl ou cp ks pt co sh vs hok hRC hcl0) ⟨rfl, rfl, Nat.le_of_ble_eq_true rfl, Nat.le_of_ble_eq_true rfl⟩ hl.1 (Nat.le_of_ble_eq_true rfl) dL_round_4 ⟨Nat.zero_le _, Nat.zero_le _⟩ rfl (fun w_1 H locs hu9 hw => ?_)
  rw [hu9] at hw
  refine lv_i2l hx hb dL_round_7 rfl ?_
  refine x_last hx hb hw (by decide) 1 hOut rfl (j := 0) (by omega) (by decide) dL_round_8 (fun w_2 H locs ew_3 hw => ?_)
  have hc_4 : w_2 0 = .inr (3, [.ref (ad 1), .ref (ad 70), .ref (ad 71), .ref (ad 72), .ref (ad 76), .int (nI n), .int (nI t), .int (nI cl), .int (nI qu), .int wh]) := by rw [ew_3]; exact (va_up_ne _ _ (by omega)).trans h0
  have hc_5 : w_2 88 = .inl (cJ, 1, .inr (.inl (vp_updL ofn 0 ((nI (pcN kp)).toInt64)))) := by rw [ew_3]; exact va_up_self _ _ _
  refine lv_goto (tgt := 18) hx hb dL_round_9 (by decide) ?_
  refine lv_iconst (v := nI 0) hx hb dL_round_18 (by decide) ?_
  exact x_hret hx hb hr hlocks hw ⟨⟨fun z _ h2 => by rw [ew_3]; exact va_up_ne _ _ h2, RC.of hRC (fun z hz => by rw [ew_3]; exact va_up_ne _ _ (by omega))⟩, hc_5⟩ dL_round_19
set_option maxHeartbeats 4000000 in
set_option maxRecDepth 100000 in
theorem h_round3 (l : Launch) {D : va_G} {cI cJ cZ cD : ClassId} {ad : Nat → Nat} {w : Nat → va_E} {sz : Nat} {sa : Nat → Nat} (n t cl qu en kp : Nat) (dl ou cp ks pt : Nat → Nat) (co sh : Nat → Nat → Nat) (vs : Nat → Int64) (hok : OkS n t cl qu en kp dl ou cp ks pt co sh) (hRC : RC ad cI cJ cD w n t cl qu en kp dl ou cp ks pt co sh vs) (hcl0 : cl = 1) (ofn : Nat → Int64) (hOut : w 88 = .inl (cJ, 1, .inr (.inl ofn))) : MH l yL_round (.codeWith yL_round cL_round 4 (some .int) [(0, 9, 12, 19), (0, 9, 15, 13)]) ({ frames := 10, cells := 0, slots := 0, locals := 370 }) [.ref (ad 0), .int (nI 3), .ref (ad 88)] D (tyL cI cJ cZ cD) ad 89 w sz sa (some (.int (nI 0))) (fun u => ((∀ z, 76 < z → z ≠ 88 → u z = w z) ∧ RC ad cI cJ cD u n t cl qu en kp dl ou cp ks pt co sh vs) ∧ u 88 = .inl (cJ, 1, .inr (.inl (vp_updL ofn 0 ((nI kp).toInt64))))) 0 0 := by
  refine MH.of (by decide) (Nat.le_of_ble_eq_true rfl) ?_
  intro p e s m below meth c ls hC hr hlocks htab hl hw hT
  obtain ⟨hx, hb, hml, hown, hts⟩ := id hC
  have hA : ∀ q, s.heap.size ≤ q → xA ad 89 s.heap.size q := fun q h => Or.inr h
  have hl : lv_has ls 4 [(0, .ref (ad 0)), (1, .int (nI 3)), (2, .ref (ad 88))] := hl
  obtain ⟨⟨wh, h0, hwh⟩, -⟩ := id hRC
  refine lv_aload_n hx hb dL_round_0 rfl (lv_at hl 2 rfl) ?_
  refine lv_iconst (v := nI 0) hx hb dL_round_1 (by decide) ?_
  refine lv_aload_n hx hb dL_round_2 rfl (lv_at hl 0 rfl) ?_
  refine lv_iload_n hx hb dL_round_3 rfl (lv_at hl 1 rfl) ?_
  refine x_callW1 (As := [.int (nI 3)]) (rest := [.int (nI 0), .ref (ad 88)]) hC vf_L_50 hw hA (by decide) h0 rfl rfl (c_round3 l n t cl qu en kp dl ou cp ks pt co sh vs hok hRC hcl0) ⟨rfl, rfl, Nat.le_of_ble_eq_true rfl, Nat.le_of_ble_eq_true rfl⟩ hl.1 (Nat.le_of_ble_eq_true rfl) dL_round_4 ⟨Nat.zero_le _, Nat.zero_le _⟩ rfl (fun w_1 H locs hu9 hw => ?_)
  rw [hu9] at hw
  refine lv_i2l hx hb dL_round_7 rfl ?_
  refine x_last hx hb hw (by decide) 1 hOut rfl (j := 0) (by omega) (by decide) dL_round_8 (fun w_2 H locs ew_3 hw => ?_)
  have hc_4 : w_2 0 = .inr (3, [.ref (ad 1), .ref (ad 70), .ref (ad 71), .ref (ad 72), .ref (ad 76), .int (nI n), .int (nI t), .int (nI cl), .int (nI qu), .int wh]) := by rw [ew_3]; exact (va_up_ne _ _ (by omega)).trans h0
  have hc_5 : w_2 88 = .inl (cJ, 1, .inr (.inl (vp_updL ofn 0 ((nI kp).toInt64)))) := by rw [ew_3]; exact va_up_self _ _ _
  refine lv_goto (tgt := 18) hx hb dL_round_9 (by decide) ?_
  refine lv_iconst (v := nI 0) hx hb dL_round_18 (by decide) ?_
  exact x_hret hx hb hr hlocks hw ⟨⟨fun z _ h2 => by rw [ew_3]; exact va_up_ne _ _ h2, RC.of hRC (fun z hz => by rw [ew_3]; exact va_up_ne _ _ (by omega))⟩, hc_5⟩ dL_round_19
set_option maxHeartbeats 4000000 in
set_option maxRecDepth 100000 in
theorem h_roundS (l : Launch) (hl0 : l.stackTraces = false) {D : va_G} {cI cJ cZ cD : ClassId} {ad : Nat → Nat} {w : Nat → va_E} {sz : Nat} {sa : Nat → Nat} (n t cl qu en kp : Nat) (dl ou cp ks pt : Nat → Nat) (co sh : Nat → Nat → Nat) (vs : Nat → Int64) (hok : OkS n t cl qu en kp dl ou cp ks pt co sh) (hRC : RC ad cI cJ cD w n t cl qu en kp dl ou cp ks pt co sh vs) (x : Int32) (hcl0 : cl = 0) : MH l yL_round (.codeWith yL_round cL_round 4 (some .int) [(0, 9, 12, 19), (0, 9, 15, 13)]) ({ frames := 10, cells := 1, slots := 6, locals := 370 }) [.ref (ad 0), .int x, .ref (ad 88)] D (tyL cI cJ cZ cD) ad 89 w sz sa (some (.int (nI 1))) (fun u => u = w) 1 6 := by
  refine MH.of (by decide) (Nat.le_of_ble_eq_true rfl) ?_
  intro p e s m below meth c ls hC hr hlocks htab hl hw hT
  obtain ⟨hx, hb, hml, hown, hts⟩ := id hC
  have hA : ∀ q, s.heap.size ≤ q → xA ad 89 s.heap.size q := fun q h => Or.inr h
  have hl : lv_has ls 4 [(0, .ref (ad 0)), (1, .int x), (2, .ref (ad 88))] := hl
  obtain ⟨⟨wh, h0, hwh⟩, -⟩ := id hRC
  refine lv_aload_n hx hb dL_round_0 rfl (lv_at hl 2 rfl) ?_
  refine lv_iconst (v := nI 0) hx hb dL_round_1 (by decide) ?_
  refine lv_aload_n hx hb dL_round_2 rfl (lv_at hl 0 rfl) ?_
  refine lv_iload_n hx hb dL_round_3 rfl (lv_at hl 1 rfl) ?_
  refine x_caught (As := [.int x]) (rest := [.int (nI 0), .ref (ad 88)]) hC vf_L_50 hw hA hT (by decide) h0 rfl rfl (c_roundS l hl0 n t cl qu en kp dl ou cp ks pt co sh vs hok hRC x hcl0) ⟨rfl, rfl, Nat.le_of_ble_eq_true rfl, Nat.le_of_ble_eq_true rfl⟩ hl.1 (Nat.le_of_ble_eq_true rfl) dL_round_4 ⟨Nat.le_of_ble_eq_true rfl, Nat.le_of_ble_eq_true rfl⟩ rfl (hpc := 12) (Or.inl ⟨⟨0, 9, 12, 19⟩, [⟨0, 9, 15, 13⟩], "java/lang/IllegalStateException", htab, by decide, by decide, (hts _ (List.mem_of_getElem? (i := 120) (by decide +kernel))), (hT.1.2.2.2.1 "java/lang/IllegalStateException" (by decide)), rfl⟩) (fun q9 H locs hw => ?_)
  refine lv_astore_n (lv' := [(3, .ref q9), (0, .ref (ad 0)), (1, .int x), (2, .ref (ad 88))]) hx hb dL_round_12 rfl hl (by decide) rfl (fun ls hl => ?_)
  refine lv_iconst (v := nI 1) hx hb dL_round_13 (by decide) ?_
  exact x_hret hx hb hr hlocks hw rfl dL_round_14
set_option maxHeartbeats 4000000 in
set_option maxRecDepth 100000 in
theorem h_roundA (l : Launch) (hl0 : l.stackTraces = false) {D : va_G} {cI cJ cZ cD : ClassId} {ad : Nat → Nat} {w : Nat → va_E} {sz : Nat} {sa : Nat → Nat} (n t cl qu en kp : Nat) (dl ou cp ks pt : Nat → Nat) (co sh : Nat → Nat → Nat) (vs : Nat → Int64) (hok : OkS n t cl qu en kp dl ou cp ks pt co sh) (hRC : RC ad cI cJ cD w n t cl qu en kp dl ou cp ks pt co sh vs) (x : Int32) (hcl0 : cl = 1) (hbad : x < 0 ∨ ¬ x ≤ nI 3) : MH l yL_round (.codeWith yL_round cL_round 4 (some .int) [(0, 9, 12, 19), (0, 9, 15, 13)]) ({ frames := 10, cells := 1, slots := 6, locals := 370 }) [.ref (ad 0), .int x, .ref (ad 88)] D (tyL cI cJ cZ cD) ad 89 w sz sa (some (.int (nI 2))) (fun u => u = w) 1 6 := by
  refine MH.of (by decide) (Nat.le_of_ble_eq_true rfl) ?_
  intro p e s m below meth c ls hC hr hlocks htab hl hw hT
  obtain ⟨hx, hb, hml, hown, hts⟩ := id hC
  have hA : ∀ q, s.heap.size ≤ q → xA ad 89 s.heap.size q := fun q h => Or.inr h
  have hl : lv_has ls 4 [(0, .ref (ad 0)), (1, .int x), (2, .ref (ad 88))] := hl
  obtain ⟨⟨wh, h0, hwh⟩, -⟩ := id hRC
  refine lv_aload_n hx hb dL_round_0 rfl (lv_at hl 2 rfl) ?_
  refine lv_iconst (v := nI 0) hx hb dL_round_1 (by decide) ?_
  refine lv_aload_n hx hb dL_round_2 rfl (lv_at hl 0 rfl) ?_
  refine lv_iload_n hx hb dL_round_3 rfl (lv_at hl 1 rfl) ?_
  refine x_caught (As := [.int x]) (rest := [.int (nI 0), .ref (ad 88)]) hC vf_L_50 hw hA hT (by decide) h0 rfl rfl (c_roundA l hl0 n t cl qu en kp dl ou cp ks pt co sh vs hok hRC x hcl0 hbad) ⟨rfl, rfl, Nat.le_of_ble_eq_true rfl, Nat.le_of_ble_eq_true rfl⟩ hl.1 (Nat.le_of_ble_eq_true rfl) dL_round_4 ⟨Nat.le_of_ble_eq_true rfl, Nat.le_of_ble_eq_true rfl⟩ rfl (hpc := 15) (Or.inr ⟨⟨0, 9, 12, 19⟩, ⟨0, 9, 15, 13⟩, [], "java/lang/IllegalStateException", "java/lang/IllegalArgumentException", htab, by decide, by decide, (hts _ (List.mem_of_getElem? (i := 120) (by decide +kernel))), hT.2.2.1, by decide, by decide, (hts _ (List.mem_of_getElem? (i := 74) (by decide +kernel))), (hT.1.2.2.2.1 "java/lang/IllegalArgumentException" (by decide)), rfl⟩) (fun q9 H locs hw => ?_)
  refine lv_astore_n (lv' := [(3, .ref q9), (0, .ref (ad 0)), (1, .int x), (2, .ref (ad 88))]) hx hb dL_round_15 rfl hl (by decide) rfl (fun ls hl => ?_)
  refine lv_iconst (v := nI 2) hx hb dL_round_16 (by decide) ?_
  exact x_hret hx hb hr hlocks hw rfl dL_round_17
set_option maxHeartbeats 4000000 in
set_option maxRecDepth 100000 in
theorem h_says0 (l : Launch) {D : va_G} {cI cJ cZ cD : ClassId} {ad : Nat → Nat} {w : Nat → va_E} {sz : Nat} {sa : Nat → Nat} (n t cl qu en kp : Nat) (dl ou cp ks pt : Nat → Nat) (co sh : Nat → Nat → Nat) (vs : Nat → Int64) (hok : OkS n t cl qu en kp dl ou cp ks pt co sh) (hRC : RC ad cI cJ cD w n t cl qu en kp dl ou cp ks pt co sh vs) (k : Nat) (hk1 : 1 ≤ k) (hk2 : k ≤ n) (hcl0 : cl = 1) (ofn : Nat → Int64) (hOut : w 88 = .inl (cJ, 1, .inr (.inl ofn))) : MH l yL_says (.codeWith yL_says cL_says 5 (some .int) [(0, 10, 13, 19), (0, 10, 17, 13)]) ({ frames := 10, cells := 0, slots := 0, locals := 370 }) [.ref (ad 0), .int (nI k), .int (nI 0), .ref (ad 88)] D (tyL cI cJ cZ cD) ad 89 w sz sa (some (.int (nI 0))) (fun u => ((∀ z, 76 < z → z ≠ 88 → u z = w z) ∧ RC ad cI cJ cD u n t 1 qu en kp dl ou cp ks pt co sh vs) ∧ u 88 = .inl (cJ, 1, .inr (.inl (vp_updL ofn 0 ((nI (syP ks vs en k)).toInt64))))) 0 0 := by
  refine MH.of (by decide) (Nat.le_of_ble_eq_true rfl) ?_
  intro p e s m below meth c ls hC hr hlocks htab hl hw hT
  obtain ⟨hx, hb, hml, hown, hts⟩ := id hC
  have hA : ∀ q, s.heap.size ≤ q → xA ad 89 s.heap.size q := fun q h => Or.inr h
  have hl : lv_has ls 5 [(0, .ref (ad 0)), (1, .int (nI k)), (2, .int (nI 0)), (3, .ref (ad 88))] := hl
  obtain ⟨⟨wh, h0, hwh⟩, -⟩ := id hRC
  refine lv_aload_n hx hb dL_says_0 rfl (lv_at hl 3 rfl) ?_
  refine lv_iconst (v := nI 0) hx hb dL_says_1 (by decide) ?_
  refine lv_aload_n hx hb dL_says_2 rfl (lv_at hl 0 rfl) ?_
  refine lv_iload_n hx hb dL_says_3 rfl (lv_at hl 1 rfl) ?_
  refine lv_iload_n hx hb dL_says_4 rfl (lv_at hl 2 rfl) ?_
  refine x_callW1 (As := [.int (nI k), .int (nI 0)]) (rest := [.int (nI 0), .ref (ad 88)]) hC vf_L_54 hw hA (by decide) h0 rfl rfl (c_says0 l n t cl qu en kp dl ou cp ks pt co sh vs hok hRC k hk1 hk2 hcl0) ⟨rfl, rfl, Nat.le_of_ble_eq_true rfl, Nat.le_of_ble_eq_true rfl⟩ hl.1 (Nat.le_of_ble_eq_true rfl) dL_says_5 ⟨Nat.zero_le _, Nat.zero_le _⟩ rfl (fun w_1 H locs hu9 hw => ?_)
  have hO2 : w_1 88 = .inl (cJ, 1, .inr (.inl ofn)) := (hu9.1 88 (by decide)).trans hOut
  refine lv_i2l hx hb dL_says_8 rfl ?_
  refine x_last hx hb hw (by decide) 1 hO2 rfl (j := 0) (by omega) (by decide) dL_says_9 (fun w_2 H locs ew_3 hw => ?_)
  have hc_4 : w_2 88 = .inl (cJ, 1, .inr (.inl (vp_updL ofn 0 ((nI (syP ks vs en k)).toInt64)))) := by rw [ew_3]; exact va_up_self _ _ _
  refine lv_goto (tgt := 21) hx hb dL_says_10 (by decide) ?_
  refine lv_iconst (v := nI 0) hx hb dL_says_21 (by decide) ?_
  exact x_hret hx hb hr hlocks hw ⟨⟨fun z h1 h2 => by rw [ew_3]; exact (va_up_ne _ _ h2).trans (hu9.1 z h1), RC.of hu9.2 (fun z hz => by rw [ew_3]; exact va_up_ne _ _ (by omega))⟩, hc_4⟩ dL_says_22
set_option maxHeartbeats 4000000 in
set_option maxRecDepth 100000 in
theorem h_says1 (l : Launch) {D : va_G} {cI cJ cZ cD : ClassId} {ad : Nat → Nat} {w : Nat → va_E} {sz : Nat} {sa : Nat → Nat} (n t cl qu en kp : Nat) (dl ou cp ks pt : Nat → Nat) (co sh : Nat → Nat → Nat) (vs : Nat → Int64) (hok : OkS n t cl qu en kp dl ou cp ks pt co sh) (hRC : RC ad cI cJ cD w n t cl qu en kp dl ou cp ks pt co sh vs) (k : Nat) (hk1 : 1 ≤ k) (hk2 : k ≤ n) (hcl0 : cl = 1) (ofn : Nat → Int64) (hOut : w 88 = .inl (cJ, 1, .inr (.inl ofn))) : MH l yL_says (.codeWith yL_says cL_says 5 (some .int) [(0, 10, 13, 19), (0, 10, 17, 13)]) ({ frames := 10, cells := 0, slots := 0, locals := 370 }) [.ref (ad 0), .int (nI k), .int (nI 1), .ref (ad 88)] D (tyL cI cJ cZ cD) ad 89 w sz sa (some (.int (nI 0))) (fun u => ((∀ z, 76 < z → z ≠ 88 → u z = w z) ∧ RC ad cI cJ cD u n t 1 qu en kp dl ou cp ks pt co sh vs) ∧ u 88 = .inl (cJ, 1, .inr (.inl (vp_updL ofn 0 ((nI (syC ks vs en k)).toInt64))))) 0 0 := by
  refine MH.of (by decide) (Nat.le_of_ble_eq_true rfl) ?_
  intro p e s m below meth c ls hC hr hlocks htab hl hw hT
  obtain ⟨hx, hb, hml, hown, hts⟩ := id hC
  have hA : ∀ q, s.heap.size ≤ q → xA ad 89 s.heap.size q := fun q h => Or.inr h
  have hl : lv_has ls 5 [(0, .ref (ad 0)), (1, .int (nI k)), (2, .int (nI 1)), (3, .ref (ad 88))] := hl
  obtain ⟨⟨wh, h0, hwh⟩, -⟩ := id hRC
  refine lv_aload_n hx hb dL_says_0 rfl (lv_at hl 3 rfl) ?_
  refine lv_iconst (v := nI 0) hx hb dL_says_1 (by decide) ?_
  refine lv_aload_n hx hb dL_says_2 rfl (lv_at hl 0 rfl) ?_
  refine lv_iload_n hx hb dL_says_3 rfl (lv_at hl 1 rfl) ?_
  refine lv_iload_n hx hb dL_says_4 rfl (lv_at hl 2 rfl) ?_
  refine x_callW1 (As := [.int (nI k), .int (nI 1)]) (rest := [.int (nI 0), .ref (ad 88)]) hC vf_L_54 hw hA (by decide) h0 rfl rfl (c_says1 l n t cl qu en kp dl ou cp ks pt co sh vs hok hRC k hk1 hk2 hcl0) ⟨rfl, rfl, Nat.le_of_ble_eq_true rfl, Nat.le_of_ble_eq_true rfl⟩ hl.1 (Nat.le_of_ble_eq_true rfl) dL_says_5 ⟨Nat.zero_le _, Nat.zero_le _⟩ rfl (fun w_1 H locs hu9 hw => ?_)
  have hO2 : w_1 88 = .inl (cJ, 1, .inr (.inl ofn)) := (hu9.1 88 (by decide)).trans hOut
  refine lv_i2l hx hb dL_says_8 rfl ?_
  refine x_last hx hb hw (by decide) 1 hO2 rfl (j := 0) (by omega) (by decide) dL_says_9 (fun w_2 H locs ew_3 hw => ?_)
  have hc_4 : w_2 88 = .inl (cJ, 1, .inr (.inl (vp_updL ofn 0 ((nI (syC ks vs en k)).toInt64)))) := by rw [ew_3]; exact va_up_self _ _ _
  refine lv_goto (tgt := 21) hx hb dL_says_10 (by decide) ?_
  refine lv_iconst (v := nI 0) hx hb dL_says_21 (by decide) ?_
  exact x_hret hx hb hr hlocks hw ⟨⟨fun z h1 h2 => by rw [ew_3]; exact (va_up_ne _ _ h2).trans (hu9.1 z h1), RC.of hu9.2 (fun z hz => by rw [ew_3]; exact va_up_ne _ _ (by omega))⟩, hc_4⟩ dL_says_22
set_option maxHeartbeats 4000000 in
set_option maxRecDepth 100000 in
theorem h_says2 (l : Launch) {D : va_G} {cI cJ cZ cD : ClassId} {ad : Nat → Nat} {w : Nat → va_E} {sz : Nat} {sa : Nat → Nat} (n t cl qu en kp : Nat) (dl ou cp ks pt : Nat → Nat) (co sh : Nat → Nat → Nat) (vs : Nat → Int64) (hok : OkS n t cl qu en kp dl ou cp ks pt co sh) (hRC : RC ad cI cJ cD w n t cl qu en kp dl ou cp ks pt co sh vs) (k : Nat) (hk1 : 1 ≤ k) (hk2 : k ≤ n) (hcl0 : cl = 1) (ofn : Nat → Int64) (hOut : w 88 = .inl (cJ, 1, .inr (.inl ofn))) : MH l yL_says (.codeWith yL_says cL_says 5 (some .int) [(0, 10, 13, 19), (0, 10, 17, 13)]) ({ frames := 10, cells := 0, slots := 0, locals := 370 }) [.ref (ad 0), .int (nI k), .int (nI 2), .ref (ad 88)] D (tyL cI cJ cZ cD) ad 89 w sz sa (some (.int (nI 0))) (fun u => ((∀ z, 76 < z → z ≠ 88 → u z = w z) ∧ RC ad cI cJ cD u n t 1 qu en kp dl ou cp ks pt co sh vs) ∧ u 88 = .inl (cJ, 1, .inr (.inl (vp_updL ofn 0 ((nI (syZ ks vs en k)).toInt64))))) 0 0 := by
  refine MH.of (by decide) (Nat.le_of_ble_eq_true rfl) ?_
  intro p e s m below meth c ls hC hr hlocks htab hl hw hT
  obtain ⟨hx, hb, hml, hown, hts⟩ := id hC
  have hA : ∀ q, s.heap.size ≤ q → xA ad 89 s.heap.size q := fun q h => Or.inr h
  have hl : lv_has ls 5 [(0, .ref (ad 0)), (1, .int (nI k)), (2, .int (nI 2)), (3, .ref (ad 88))] := hl
  obtain ⟨⟨wh, h0, hwh⟩, -⟩ := id hRC
  refine lv_aload_n hx hb dL_says_0 rfl (lv_at hl 3 rfl) ?_
  refine lv_iconst (v := nI 0) hx hb dL_says_1 (by decide) ?_
  refine lv_aload_n hx hb dL_says_2 rfl (lv_at hl 0 rfl) ?_
  refine lv_iload_n hx hb dL_says_3 rfl (lv_at hl 1 rfl) ?_
  refine lv_iload_n hx hb dL_says_4 rfl (lv_at hl 2 rfl) ?_
  refine x_callW1 (As := [.int (nI k), .int (nI 2)]) (rest := [.int (nI 0), .ref (ad 88)]) hC vf_L_54 hw hA (by decide) h0 rfl rfl (c_says2 l n t cl qu en kp dl ou cp ks pt co sh vs hok hRC k hk1 hk2 hcl0) ⟨rfl, rfl, Nat.le_of_ble_eq_true rfl, Nat.le_of_ble_eq_true rfl⟩ hl.1 (Nat.le_of_ble_eq_true rfl) dL_says_5 ⟨Nat.zero_le _, Nat.zero_le _⟩ rfl (fun w_1 H locs hu9 hw => ?_)
  have hO2 : w_1 88 = .inl (cJ, 1, .inr (.inl ofn)) := (hu9.1 88 (by decide)).trans hOut
  refine lv_i2l hx hb dL_says_8 rfl ?_
  refine x_last hx hb hw (by decide) 1 hO2 rfl (j := 0) (by omega) (by decide) dL_says_9 (fun w_2 H locs ew_3 hw => ?_)
  have hc_4 : w_2 88 = .inl (cJ, 1, .inr (.inl (vp_updL ofn 0 ((nI (syZ ks vs en k)).toInt64)))) := by rw [ew_3]; exact va_up_self _ _ _
  refine lv_goto (tgt := 21) hx hb dL_says_10 (by decide) ?_
  refine lv_iconst (v := nI 0) hx hb dL_says_21 (by decide) ?_
  exact x_hret hx hb hr hlocks hw ⟨⟨fun z h1 h2 => by rw [ew_3]; exact (va_up_ne _ _ h2).trans (hu9.1 z h1), RC.of hu9.2 (fun z hz => by rw [ew_3]; exact va_up_ne _ _ (by omega))⟩, hc_4⟩ dL_says_22
set_option maxHeartbeats 4000000 in
set_option maxRecDepth 100000 in
theorem h_saysS (l : Launch) (hl0 : l.stackTraces = false) {D : va_G} {cI cJ cZ cD : ClassId} {ad : Nat → Nat} {w : Nat → va_E} {sz : Nat} {sa : Nat → Nat} (n t cl qu en kp : Nat) (dl ou cp ks pt : Nat → Nat) (co sh : Nat → Nat → Nat) (vs : Nat → Int64) (hok : OkS n t cl qu en kp dl ou cp ks pt co sh) (hRC : RC ad cI cJ cD w n t cl qu en kp dl ou cp ks pt co sh vs) (x y : Int32) (hcl0 : cl = 0) : MH l yL_says (.codeWith yL_says cL_says 5 (some .int) [(0, 10, 13, 19), (0, 10, 17, 13)]) ({ frames := 10, cells := 1, slots := 6, locals := 370 }) [.ref (ad 0), .int x, .int y, .ref (ad 88)] D (tyL cI cJ cZ cD) ad 89 w sz sa (some (.int (nI 1))) (fun u => u = w) 1 6 := by
  refine MH.of (by decide) (Nat.le_of_ble_eq_true rfl) ?_
  intro p e s m below meth c ls hC hr hlocks htab hl hw hT
  obtain ⟨hx, hb, hml, hown, hts⟩ := id hC
  have hA : ∀ q, s.heap.size ≤ q → xA ad 89 s.heap.size q := fun q h => Or.inr h
  have hl : lv_has ls 5 [(0, .ref (ad 0)), (1, .int x), (2, .int y), (3, .ref (ad 88))] := hl
  obtain ⟨⟨wh, h0, hwh⟩, -⟩ := id hRC
  refine lv_aload_n hx hb dL_says_0 rfl (lv_at hl 3 rfl) ?_
  refine lv_iconst (v := nI 0) hx hb dL_says_1 (by decide) ?_
  refine lv_aload_n hx hb dL_says_2 rfl (lv_at hl 0 rfl) ?_
  refine lv_iload_n hx hb dL_says_3 rfl (lv_at hl 1 rfl) ?_
  refine lv_iload_n hx hb dL_says_4 rfl (lv_at hl 2 rfl) ?_
  refine x_caught (As := [.int x, .int y]) (rest := [.int (nI 0), .ref (ad 88)]) hC vf_L_54 hw hA hT (by decide) h0 rfl rfl (c_saysS l hl0 n t cl qu en kp dl ou cp ks pt co sh vs hok hRC x y hcl0) ⟨rfl, rfl, Nat.le_of_ble_eq_true rfl, Nat.le_of_ble_eq_true rfl⟩ hl.1 (Nat.le_of_ble_eq_true rfl) dL_says_5 ⟨Nat.le_of_ble_eq_true rfl, Nat.le_of_ble_eq_true rfl⟩ rfl (hpc := 13) (Or.inl ⟨⟨0, 10, 13, 19⟩, [⟨0, 10, 17, 13⟩], "java/lang/IllegalStateException", htab, by decide, by decide, (hts _ (List.mem_of_getElem? (i := 120) (by decide +kernel))), (hT.1.2.2.2.1 "java/lang/IllegalStateException" (by decide)), rfl⟩) (fun q9 H locs hw => ?_)
  refine lv_astore (lv' := [(4, .ref q9), (0, .ref (ad 0)), (1, .int x), (2, .int y), (3, .ref (ad 88))]) hx hb dL_says_13 hl (by decide) rfl (fun ls hl => ?_)
  refine lv_iconst (v := nI 1) hx hb dL_says_15 (by decide) ?_
  exact x_hret hx hb hr hlocks hw rfl dL_says_16
set_option maxHeartbeats 4000000 in
set_option maxRecDepth 100000 in
theorem h_saysA (l : Launch) (hl0 : l.stackTraces = false) {D : va_G} {cI cJ cZ cD : ClassId} {ad : Nat → Nat} {w : Nat → va_E} {sz : Nat} {sa : Nat → Nat} (n t cl qu en kp : Nat) (dl ou cp ks pt : Nat → Nat) (co sh : Nat → Nat → Nat) (vs : Nat → Int64) (hok : OkS n t cl qu en kp dl ou cp ks pt co sh) (hRC : RC ad cI cJ cD w n t cl qu en kp dl ou cp ks pt co sh vs) (x y : Int32) (hcl0 : cl = 1) (hbad : ¬ (isNd n x ∧ ¬ y < 0 ∧ y ≤ nI 2)) : MH l yL_says (.codeWith yL_says cL_says 5 (some .int) [(0, 10, 13, 19), (0, 10, 17, 13)]) ({ frames := 10, cells := 1, slots := 6, locals := 370 }) [.ref (ad 0), .int x, .int y, .ref (ad 88)] D (tyL cI cJ cZ cD) ad 89 w sz sa (some (.int (nI 2))) (fun u => u = w) 1 6 := by
  refine MH.of (by decide) (Nat.le_of_ble_eq_true rfl) ?_
  intro p e s m below meth c ls hC hr hlocks htab hl hw hT
  obtain ⟨hx, hb, hml, hown, hts⟩ := id hC
  have hA : ∀ q, s.heap.size ≤ q → xA ad 89 s.heap.size q := fun q h => Or.inr h
  have hl : lv_has ls 5 [(0, .ref (ad 0)), (1, .int x), (2, .int y), (3, .ref (ad 88))] := hl
  obtain ⟨⟨wh, h0, hwh⟩, -⟩ := id hRC
  refine lv_aload_n hx hb dL_says_0 rfl (lv_at hl 3 rfl) ?_
  refine lv_iconst (v := nI 0) hx hb dL_says_1 (by decide) ?_
  refine lv_aload_n hx hb dL_says_2 rfl (lv_at hl 0 rfl) ?_
  refine lv_iload_n hx hb dL_says_3 rfl (lv_at hl 1 rfl) ?_
  refine lv_iload_n hx hb dL_says_4 rfl (lv_at hl 2 rfl) ?_
  refine x_caught (As := [.int x, .int y]) (rest := [.int (nI 0), .ref (ad 88)]) hC vf_L_54 hw hA hT (by decide) h0 rfl rfl (c_saysA l hl0 n t cl qu en kp dl ou cp ks pt co sh vs hok hRC x y hcl0 hbad) ⟨rfl, rfl, Nat.le_of_ble_eq_true rfl, Nat.le_of_ble_eq_true rfl⟩ hl.1 (Nat.le_of_ble_eq_true rfl) dL_says_5 ⟨Nat.le_of_ble_eq_true rfl, Nat.le_of_ble_eq_true rfl⟩ rfl (hpc := 17) (Or.inr ⟨⟨0, 10, 13, 19⟩, ⟨0, 10, 17, 13⟩, [], "java/lang/IllegalStateException", "java/lang/IllegalArgumentException", htab, by decide, by decide, (hts _ (List.mem_of_getElem? (i := 120) (by decide +kernel))), hT.2.2.1, by decide, by decide, (hts _ (List.mem_of_getElem? (i := 74) (by decide +kernel))), (hT.1.2.2.2.1 "java/lang/IllegalArgumentException" (by decide)), rfl⟩) (fun q9 H locs hw => ?_)
  refine lv_astore (lv' := [(4, .ref q9), (0, .ref (ad 0)), (1, .int x), (2, .int y), (3, .ref (ad 88))]) hx hb dL_says_17 hl (by decide) rfl (fun ls hl => ?_)
  refine lv_iconst (v := nI 2) hx hb dL_says_19 (by decide) ?_
  exact x_hret hx hb hr hlocks hw rfl dL_says_20
set_option maxHeartbeats 4000000 in
set_option maxRecDepth 100000 in
theorem h_offerS (l : Launch) (hl0 : l.stackTraces = false) {D : va_G} {cI cJ cZ cD : ClassId} {ad : Nat → Nat} {w : Nat → va_E} {sz : Nat} {sa : Nat → Nat} (n t cl qu en kp : Nat) (dl ou cp ks pt : Nat → Nat) (co sh : Nat → Nat → Nat) (vs : Nat → Int64) (hok : OkS n t cl qu en kp dl ou cp ks pt co sh) (hRC : RC ad cI cJ cD w n t cl qu en kp dl ou cp ks pt co sh vs) (x y b1 b2 b3 : Int32) (hcl0 : cl = 0) : MH l yL_offer (.codeWith yL_offer cL_offer 8 (some .int) [(0, 23, 26, 19), (0, 23, 30, 13)]) ({ frames := 10, cells := 1, slots := 6, locals := 370 }) [.ref (ad 0), .int x, .int y, .int b1, .int b2, .int b3, .ref (ad 88)] D (tyL cI cJ cZ cD) ad 89 w sz sa (some (.int (nI 1))) (fun u => u = w) 1 6 := by
  refine MH.of (by decide) (Nat.le_of_ble_eq_true rfl) ?_
  intro p e s m below meth c ls hC hr hlocks htab hl hw hT
  obtain ⟨hx, hb, hml, hown, hts⟩ := id hC
  have hA : ∀ q, s.heap.size ≤ q → xA ad 89 s.heap.size q := fun q h => Or.inr h
  have hl : lv_has ls 8 [(0, .ref (ad 0)), (1, .int x), (2, .int y), (3, .int b1), (4, .int b2), (5, .int b3), (6, .ref (ad 88))] := hl
  obtain ⟨⟨wh, h0, hwh⟩, -⟩ := id hRC
  refine lv_aload hx hb dL_offer_0 (lv_at hl 6 rfl) ?_
  refine lv_iconst (v := nI 0) hx hb dL_offer_2 (by decide) ?_
  refine lv_aload_n hx hb dL_offer_3 rfl (lv_at hl 0 rfl) ?_
  refine lv_iload_n hx hb dL_offer_4 rfl (lv_at hl 1 rfl) ?_
  refine lv_iload_n hx hb dL_offer_5 rfl (lv_at hl 2 rfl) ?_
  refine lv_iload_n hx hb dL_offer_6 rfl (lv_at hl 3 rfl) ?_
  refine lv_iload hx hb dL_offer_7 (lv_at hl 4 rfl) ?_
  refine lv_iload hx hb dL_offer_9 (lv_at hl 5 rfl) ?_
  refine x_caught (As := [.int x, .int y, .int b1, .int b2, .int b3]) (rest := [.int (nI 0), .ref (ad 88)]) hC vf_L_57 hw hA hT (by decide) h0 rfl rfl (c_offerS l hl0 n t cl qu en kp dl ou cp ks pt co sh vs hok hRC x y b1 b2 b3 hcl0) ⟨rfl, rfl, Nat.le_of_ble_eq_true rfl, Nat.le_of_ble_eq_true rfl⟩ hl.1 (Nat.le_of_ble_eq_true rfl) dL_offer_11 ⟨Nat.le_of_ble_eq_true rfl, Nat.le_of_ble_eq_true rfl⟩ rfl (hpc := 26) (Or.inl ⟨⟨0, 23, 26, 19⟩, [⟨0, 23, 30, 13⟩], "java/lang/IllegalStateException", htab, by decide, by decide, (hts _ (List.mem_of_getElem? (i := 120) (by decide +kernel))), (hT.1.2.2.2.1 "java/lang/IllegalStateException" (by decide)), rfl⟩) (fun q9 H locs hw => ?_)
  refine lv_astore (lv' := [(7, .ref q9), (0, .ref (ad 0)), (1, .int x), (2, .int y), (3, .int b1), (4, .int b2), (5, .int b3), (6, .ref (ad 88))]) hx hb dL_offer_26 hl (by decide) rfl (fun ls hl => ?_)
  refine lv_iconst (v := nI 1) hx hb dL_offer_28 (by decide) ?_
  exact x_hret hx hb hr hlocks hw rfl dL_offer_29
set_option maxHeartbeats 4000000 in
set_option maxRecDepth 100000 in
theorem h_offerA (l : Launch) (hl0 : l.stackTraces = false) {D : va_G} {cI cJ cZ cD : ClassId} {ad : Nat → Nat} {w : Nat → va_E} {sz : Nat} {sa : Nat → Nat} (n t cl qu en kp : Nat) (dl ou cp ks pt : Nat → Nat) (co sh : Nat → Nat → Nat) (vs : Nat → Int64) (hok : OkS n t cl qu en kp dl ou cp ks pt co sh) (hRC : RC ad cI cJ cD w n t cl qu en kp dl ou cp ks pt co sh vs) (x y b1 b2 b3 : Int32) (hcl0 : cl = 1) (hbad : ¬ (isNd n x ∧ isNd n y)) : MH l yL_offer (.codeWith yL_offer cL_offer 8 (some .int) [(0, 23, 26, 19), (0, 23, 30, 13)]) ({ frames := 10, cells := 1, slots := 6, locals := 370 }) [.ref (ad 0), .int x, .int y, .int b1, .int b2, .int b3, .ref (ad 88)] D (tyL cI cJ cZ cD) ad 89 w sz sa (some (.int (nI 2))) (fun u => u = w) 1 6 := by
  refine MH.of (by decide) (Nat.le_of_ble_eq_true rfl) ?_
  intro p e s m below meth c ls hC hr hlocks htab hl hw hT
  obtain ⟨hx, hb, hml, hown, hts⟩ := id hC
  have hA : ∀ q, s.heap.size ≤ q → xA ad 89 s.heap.size q := fun q h => Or.inr h
  have hl : lv_has ls 8 [(0, .ref (ad 0)), (1, .int x), (2, .int y), (3, .int b1), (4, .int b2), (5, .int b3), (6, .ref (ad 88))] := hl
  obtain ⟨⟨wh, h0, hwh⟩, -⟩ := id hRC
  refine lv_aload hx hb dL_offer_0 (lv_at hl 6 rfl) ?_
  refine lv_iconst (v := nI 0) hx hb dL_offer_2 (by decide) ?_
  refine lv_aload_n hx hb dL_offer_3 rfl (lv_at hl 0 rfl) ?_
  refine lv_iload_n hx hb dL_offer_4 rfl (lv_at hl 1 rfl) ?_
  refine lv_iload_n hx hb dL_offer_5 rfl (lv_at hl 2 rfl) ?_
  refine lv_iload_n hx hb dL_offer_6 rfl (lv_at hl 3 rfl) ?_
  refine lv_iload hx hb dL_offer_7 (lv_at hl 4 rfl) ?_
  refine lv_iload hx hb dL_offer_9 (lv_at hl 5 rfl) ?_
  refine x_caught (As := [.int x, .int y, .int b1, .int b2, .int b3]) (rest := [.int (nI 0), .ref (ad 88)]) hC vf_L_57 hw hA hT (by decide) h0 rfl rfl (c_offerA l hl0 n t cl qu en kp dl ou cp ks pt co sh vs hok hRC x y b1 b2 b3 hcl0 hbad) ⟨rfl, rfl, Nat.le_of_ble_eq_true rfl, Nat.le_of_ble_eq_true rfl⟩ hl.1 (Nat.le_of_ble_eq_true rfl) dL_offer_11 ⟨Nat.le_of_ble_eq_true rfl, Nat.le_of_ble_eq_true rfl⟩ rfl (hpc := 30) (Or.inr ⟨⟨0, 23, 26, 19⟩, ⟨0, 23, 30, 13⟩, [], "java/lang/IllegalStateException", "java/lang/IllegalArgumentException", htab, by decide, by decide, (hts _ (List.mem_of_getElem? (i := 120) (by decide +kernel))), hT.2.2.1, by decide, by decide, (hts _ (List.mem_of_getElem? (i := 74) (by decide +kernel))), (hT.1.2.2.2.1 "java/lang/IllegalArgumentException" (by decide)), rfl⟩) (fun q9 H locs hw => ?_)
  refine lv_astore (lv' := [(7, .ref q9), (0, .ref (ad 0)), (1, .int x), (2, .int y), (3, .int b1), (4, .int b2), (5, .int b3), (6, .ref (ad 88))]) hx hb dL_offer_30 hl (by decide) rfl (fun ls hl => ?_)
  refine lv_iconst (v := nI 2) hx hb dL_offer_32 (by decide) ?_
  exact x_hret hx hb hr hlocks hw rfl dL_offer_33
set_option maxHeartbeats 4000000 in
set_option maxRecDepth 100000 in
theorem h_offerK (l : Launch) {D : va_G} {cI cJ cZ cD : ClassId} {ad : Nat → Nat} {w : Nat → va_E} {sz : Nat} {sa : Nat → Nat} (n t cl qu en kp : Nat) (dl ou cp ks pt : Nat → Nat) (co sh : Nat → Nat → Nat) (vs : Nat → Int64) (hok : OkS n t cl qu en kp dl ou cp ks pt co sh) (hRC : RC ad cI cJ cD w n t cl qu en kp dl ou cp ks pt co sh vs) (k f : Nat) (hk1 : 1 ≤ k) (hk2 : k ≤ n) (hf1 : 1 ≤ f) (hf2 : f ≤ n) (b1 b2 b3 : Int32) (hcl0 : cl = 1) (hkpt : tb kp k = 1) (ofn : Nat → Int64) (hOut : w 88 = .inl (cJ, 1, .inr (.inl ofn))) : MH l yL_offer (.codeWith yL_offer cL_offer 8 (some .int) [(0, 23, 26, 19), (0, 23, 30, 13)]) ({ frames := 10, cells := 0, slots := 0, locals := 370 }) [.ref (ad 0), .int (nI k), .int (nI f), .int b1, .int b2, .int b3, .ref (ad 88)] D (tyL cI cJ cZ cD) ad 89 w sz sa (some (.int (nI 0))) (fun u => ((∀ z, 76 < z → z ≠ 88 → u z = w z) ∧ RC ad cI cJ cD u n t cl qu en kp dl ou cp ks pt co sh vs) ∧ u 88 = .inl (cJ, 1, .inr (.inl (vp_updL ofn 0 (lN 0))))) 0 0 := by
  refine MH.of (by decide) (Nat.le_of_ble_eq_true rfl) ?_
  intro p e s m below meth c ls hC hr hlocks htab hl hw hT
  obtain ⟨hx, hb, hml, hown, hts⟩ := id hC
  have hA : ∀ q, s.heap.size ≤ q → xA ad 89 s.heap.size q := fun q h => Or.inr h
  have hl : lv_has ls 8 [(0, .ref (ad 0)), (1, .int (nI k)), (2, .int (nI f)), (3, .int b1), (4, .int b2), (5, .int b3), (6, .ref (ad 88))] := hl
  obtain ⟨⟨wh, h0, hwh⟩, -⟩ := id hRC
  refine lv_aload hx hb dL_offer_0 (lv_at hl 6 rfl) ?_
  refine lv_iconst (v := nI 0) hx hb dL_offer_2 (by decide) ?_
  refine lv_aload_n hx hb dL_offer_3 rfl (lv_at hl 0 rfl) ?_
  refine lv_iload_n hx hb dL_offer_4 rfl (lv_at hl 1 rfl) ?_
  refine lv_iload_n hx hb dL_offer_5 rfl (lv_at hl 2 rfl) ?_
  refine lv_iload_n hx hb dL_offer_6 rfl (lv_at hl 3 rfl) ?_
  refine lv_iload hx hb dL_offer_7 (lv_at hl 4 rfl) ?_
  refine lv_iload hx hb dL_offer_9 (lv_at hl 5 rfl) ?_
  refine x_callW1 (As := [.int (nI k), .int (nI f), .int b1, .int b2, .int b3]) (rest := [.int (nI 0), .ref (ad 88)]) hC vf_L_57 hw hA (by decide) h0 rfl rfl (c_offerK l n t cl qu en kp dl ou cp ks pt co sh vs hok hRC k f hk1 hk2 hf1 hf2 b1 b2 b3 hcl0 hkpt) ⟨rfl, rfl, Nat.le_of_ble_eq_true rfl, Nat.le_of_ble_eq_true rfl⟩ hl.1 (Nat.le_of_ble_eq_true rfl) dL_offer_11 ⟨Nat.zero_le _, Nat.zero_le _⟩ rfl (fun w_1 H locs hu9 hw => ?_)
  rw [hu9] at hw
  refine lv_if_eq (tgt := 21) hx hb dL_offer_14 (by decide) (fun q_2 => ?_) (fun q_2 => absurd (by decide) q_2)
  refine lv_lconst (v := lN 0) hx hb dL_offer_21 (by decide) ?_
  refine x_last hx hb hw (by decide) 1 hOut rfl (j := 0) (by omega) (by decide) dL_offer_22 (fun w_3 H locs ew_4 hw => ?_)
  have hc_5 : w_3 0 = .inr (3, [.ref (ad 1), .ref (ad 70), .ref (ad 71), .ref (ad 72), .ref (ad 76), .int (nI n), .int (nI t), .int (nI cl), .int (nI qu), .int wh]) := by rw [ew_4]; exact (va_up_ne _ _ (by omega)).trans h0
  have hc_6 : w_3 88 = .inl (cJ, 1, .inr (.inl (vp_updL ofn 0 (lN 0)))) := by rw [ew_4]; exact va_up_self _ _ _
  refine lv_goto (tgt := 34) hx hb dL_offer_23 (by decide) ?_
  refine lv_iconst (v := nI 0) hx hb dL_offer_34 (by decide) ?_
  exact x_hret hx hb hr hlocks hw ⟨⟨fun z _ h2 => by rw [ew_4]; exact va_up_ne _ _ h2, RC.of hRC (fun z hz => by rw [ew_4]; exact va_up_ne _ _ (by omega))⟩, hc_6⟩ dL_offer_35
set_option maxHeartbeats 4000000 in
set_option maxRecDepth 100000 in
theorem h_offerR (l : Launch) {D : va_G} {cI cJ cZ cD : ClassId} {ad : Nat → Nat} {w : Nat → va_E} {sz : Nat} {sa : Nat → Nat} (n t cl qu en kp : Nat) (dl ou cp ks pt : Nat → Nat) (co sh : Nat → Nat → Nat) (vs : Nat → Int64) (hok : OkS n t cl qu en kp dl ou cp ks pt co sh) (hRC : RC ad cI cJ cD w n t cl qu en kp dl ou cp ks pt co sh vs) (k f : Nat) (hk1 : 1 ≤ k) (hk2 : k ≤ n) (hf1 : 1 ≤ f) (hf2 : f ≤ n) (b1 b2 b3 : Int32) (hcl0 : cl = 1) (hkpt : tb kp k = 0) (hno : ¬ (inr (syP ks vs en f) b1 ∧ inr (syC ks vs en f) b2 ∧ inr (syZ ks vs en f) b3)) (ofn : Nat → Int64) (hOut : w 88 = .inl (cJ, 1, .inr (.inl ofn))) : MH l yL_offer (.codeWith yL_offer cL_offer 8 (some .int) [(0, 23, 26, 19), (0, 23, 30, 13)]) ({ frames := 10, cells := 0, slots := 0, locals := 370 }) [.ref (ad 0), .int (nI k), .int (nI f), .int b1, .int b2, .int b3, .ref (ad 88)] D (tyL cI cJ cZ cD) ad 89 w sz sa (some (.int (nI 0))) (fun u => ((∀ z, 76 < z → z ≠ 88 → u z = w z) ∧ RC ad cI cJ cD u n t 1 qu en kp dl ou cp ks pt co sh vs) ∧ u 88 = .inl (cJ, 1, .inr (.inl (vp_updL ofn 0 (lN 0))))) 0 0 := by
  refine MH.of (by decide) (Nat.le_of_ble_eq_true rfl) ?_
  intro p e s m below meth c ls hC hr hlocks htab hl hw hT
  obtain ⟨hx, hb, hml, hown, hts⟩ := id hC
  have hA : ∀ q, s.heap.size ≤ q → xA ad 89 s.heap.size q := fun q h => Or.inr h
  have hl : lv_has ls 8 [(0, .ref (ad 0)), (1, .int (nI k)), (2, .int (nI f)), (3, .int b1), (4, .int b2), (5, .int b3), (6, .ref (ad 88))] := hl
  obtain ⟨⟨wh, h0, hwh⟩, -⟩ := id hRC
  refine lv_aload hx hb dL_offer_0 (lv_at hl 6 rfl) ?_
  refine lv_iconst (v := nI 0) hx hb dL_offer_2 (by decide) ?_
  refine lv_aload_n hx hb dL_offer_3 rfl (lv_at hl 0 rfl) ?_
  refine lv_iload_n hx hb dL_offer_4 rfl (lv_at hl 1 rfl) ?_
  refine lv_iload_n hx hb dL_offer_5 rfl (lv_at hl 2 rfl) ?_
  refine lv_iload_n hx hb dL_offer_6 rfl (lv_at hl 3 rfl) ?_
  refine lv_iload hx hb dL_offer_7 (lv_at hl 4 rfl) ?_
  refine lv_iload hx hb dL_offer_9 (lv_at hl 5 rfl) ?_
  refine x_callW1 (As := [.int (nI k), .int (nI f), .int b1, .int b2, .int b3]) (rest := [.int (nI 0), .ref (ad 88)]) hC vf_L_57 hw hA (by decide) h0 rfl rfl (c_offerR l n t cl qu en kp dl ou cp ks pt co sh vs hok hRC k f hk1 hk2 hf1 hf2 b1 b2 b3 hcl0 hkpt hno) ⟨rfl, rfl, Nat.le_of_ble_eq_true rfl, Nat.le_of_ble_eq_true rfl⟩ hl.1 (Nat.le_of_ble_eq_true rfl) dL_offer_11 ⟨Nat.zero_le _, Nat.zero_le _⟩ rfl (fun w_1 H locs hu9 hw => ?_)
  have hO2 : w_1 88 = .inl (cJ, 1, .inr (.inl ofn)) := (hu9.1 88 (by decide)).trans hOut
  refine lv_if_eq (tgt := 21) hx hb dL_offer_14 (by decide) (fun q_2 => ?_) (fun q_2 => absurd (by decide) q_2)
  refine lv_lconst (v := lN 0) hx hb dL_offer_21 (by decide) ?_
  refine x_last hx hb hw (by decide) 1 hO2 rfl (j := 0) (by omega) (by decide) dL_offer_22 (fun w_3 H locs ew_4 hw => ?_)
  have hc_5 : w_3 88 = .inl (cJ, 1, .inr (.inl (vp_updL ofn 0 (lN 0)))) := by rw [ew_4]; exact va_up_self _ _ _
  refine lv_goto (tgt := 34) hx hb dL_offer_23 (by decide) ?_
  refine lv_iconst (v := nI 0) hx hb dL_offer_34 (by decide) ?_
  exact x_hret hx hb hr hlocks hw ⟨⟨fun z h1 h2 => by rw [ew_4]; exact (va_up_ne _ _ h2).trans (hu9.1 z h1), RC.of hu9.2 (fun z hz => by rw [ew_4]; exact va_up_ne _ _ (by omega))⟩, hc_5⟩ dL_offer_35
set_option maxHeartbeats 4000000 in
set_option maxRecDepth 100000 in
theorem h_offerH (l : Launch) {D : va_G} {cI cJ cZ cD : ClassId} {ad : Nat → Nat} {w : Nat → va_E} {sz : Nat} {sa : Nat → Nat} (n t cl qu en kp : Nat) (dl ou cp ks pt : Nat → Nat) (co sh : Nat → Nat → Nat) (vs : Nat → Int64) (hok : OkS n t cl qu en kp dl ou cp ks pt co sh) (hRC : RC ad cI cJ cD w n t cl qu en kp dl ou cp ks pt co sh vs) (k f : Nat) (hk1 : 1 ≤ k) (hk2 : k ≤ n) (hf1 : 1 ≤ f) (hf2 : f ≤ n) (b1 b2 b3 : Int32) (hcl0 : cl = 1) (hkpt : tb kp k = 0) (a2 x2 y2 : Nat) (g1 : a2 < 2147483648) (g2 : x2 < 2147483648) (g3 : y2 < 2147483648) (e1 : (syP ks vs en f : Int) + b1.toInt = a2) (e2 : (syC ks vs en f : Int) + b2.toInt = x2) (e3 : (syZ ks vs en f : Int) + b3.toInt = y2) (hno : ¬ hldF a2 x2 y2 (4 ^ ks k % 2147483579) (bsF vs en)) (ofn : Nat → Int64) (hOut : w 88 = .inl (cJ, 1, .inr (.inl ofn))) : MH l yL_offer (.codeWith yL_offer cL_offer 8 (some .int) [(0, 23, 26, 19), (0, 23, 30, 13)]) ({ frames := 10, cells := 0, slots := 0, locals := 370 }) [.ref (ad 0), .int (nI k), .int (nI f), .int b1, .int b2, .int b3, .ref (ad 88)] D (tyL cI cJ cZ cD) ad 89 w sz sa (some (.int (nI 0))) (fun u => ((∀ z, 76 < z → z ≠ 88 → u z = w z) ∧ RC ad cI cJ cD u n t 1 qu en kp dl ou cp ks pt co sh vs) ∧ u 88 = .inl (cJ, 1, .inr (.inl (vp_updL ofn 0 (lN 0))))) 0 0 := by
  refine MH.of (by decide) (Nat.le_of_ble_eq_true rfl) ?_
  intro p e s m below meth c ls hC hr hlocks htab hl hw hT
  obtain ⟨hx, hb, hml, hown, hts⟩ := id hC
  have hA : ∀ q, s.heap.size ≤ q → xA ad 89 s.heap.size q := fun q h => Or.inr h
  have hl : lv_has ls 8 [(0, .ref (ad 0)), (1, .int (nI k)), (2, .int (nI f)), (3, .int b1), (4, .int b2), (5, .int b3), (6, .ref (ad 88))] := hl
  obtain ⟨⟨wh, h0, hwh⟩, -⟩ := id hRC
  refine lv_aload hx hb dL_offer_0 (lv_at hl 6 rfl) ?_
  refine lv_iconst (v := nI 0) hx hb dL_offer_2 (by decide) ?_
  refine lv_aload_n hx hb dL_offer_3 rfl (lv_at hl 0 rfl) ?_
  refine lv_iload_n hx hb dL_offer_4 rfl (lv_at hl 1 rfl) ?_
  refine lv_iload_n hx hb dL_offer_5 rfl (lv_at hl 2 rfl) ?_
  refine lv_iload_n hx hb dL_offer_6 rfl (lv_at hl 3 rfl) ?_
  refine lv_iload hx hb dL_offer_7 (lv_at hl 4 rfl) ?_
  refine lv_iload hx hb dL_offer_9 (lv_at hl 5 rfl) ?_
  refine x_callW1 (As := [.int (nI k), .int (nI f), .int b1, .int b2, .int b3]) (rest := [.int (nI 0), .ref (ad 88)]) hC vf_L_57 hw hA (by decide) h0 rfl rfl (c_offerH l n t cl qu en kp dl ou cp ks pt co sh vs hok hRC k f hk1 hk2 hf1 hf2 b1 b2 b3 hcl0 hkpt a2 x2 y2 g1 g2 g3 e1 e2 e3 hno) ⟨rfl, rfl, Nat.le_of_ble_eq_true rfl, Nat.le_of_ble_eq_true rfl⟩ hl.1 (Nat.le_of_ble_eq_true rfl) dL_offer_11 ⟨Nat.zero_le _, Nat.zero_le _⟩ rfl (fun w_1 H locs hu9 hw => ?_)
  have hO2 : w_1 88 = .inl (cJ, 1, .inr (.inl ofn)) := (hu9.1 88 (by decide)).trans hOut
  refine lv_if_eq (tgt := 21) hx hb dL_offer_14 (by decide) (fun q_2 => ?_) (fun q_2 => absurd (by decide) q_2)
  refine lv_lconst (v := lN 0) hx hb dL_offer_21 (by decide) ?_
  refine x_last hx hb hw (by decide) 1 hO2 rfl (j := 0) (by omega) (by decide) dL_offer_22 (fun w_3 H locs ew_4 hw => ?_)
  have hc_5 : w_3 88 = .inl (cJ, 1, .inr (.inl (vp_updL ofn 0 (lN 0)))) := by rw [ew_4]; exact va_up_self _ _ _
  refine lv_goto (tgt := 34) hx hb dL_offer_23 (by decide) ?_
  refine lv_iconst (v := nI 0) hx hb dL_offer_34 (by decide) ?_
  exact x_hret hx hb hr hlocks hw ⟨⟨fun z h1 h2 => by rw [ew_4]; exact (va_up_ne _ _ h2).trans (hu9.1 z h1), RC.of hu9.2 (fun z hz => by rw [ew_4]; exact va_up_ne _ _ (by omega))⟩, hc_5⟩ dL_offer_35
set_option maxHeartbeats 4000000 in
set_option maxRecDepth 100000 in
theorem h_offerY (l : Launch) {D : va_G} {cI cJ cZ cD : ClassId} {ad : Nat → Nat} {w : Nat → va_E} {sz : Nat} {sa : Nat → Nat} (n t cl qu en kp : Nat) (dl ou cp ks pt : Nat → Nat) (co sh : Nat → Nat → Nat) (vs : Nat → Int64) (hok : OkS n t cl qu en kp dl ou cp ks pt co sh) (hRC : RC ad cI cJ cD w n t cl qu en kp dl ou cp ks pt co sh vs) (k f : Nat) (hk1 : 1 ≤ k) (hk2 : k ≤ n) (hf1 : 1 ≤ f) (hf2 : f ≤ n) (b1 b2 b3 : Int32) (hcl0 : cl = 1) (hkpt : tb kp k = 0) (a2 x2 y2 : Nat) (g1 : a2 < 2147483648) (g2 : x2 < 2147483648) (g3 : y2 < 2147483648) (e1 : (syP ks vs en f : Int) + b1.toInt = a2) (e2 : (syC ks vs en f : Int) + b2.toInt = x2) (e3 : (syZ ks vs en f : Int) + b3.toInt = y2) (hyes : hldF a2 x2 y2 (4 ^ ks k % 2147483579) (bsF vs en)) (ofn : Nat → Int64) (hOut : w 88 = .inl (cJ, 1, .inr (.inl ofn))) : MH l yL_offer (.codeWith yL_offer cL_offer 8 (some .int) [(0, 23, 26, 19), (0, 23, 30, 13)]) ({ frames := 10, cells := 0, slots := 0, locals := 370 }) [.ref (ad 0), .int (nI k), .int (nI f), .int b1, .int b2, .int b3, .ref (ad 88)] D (tyL cI cJ cZ cD) ad 89 w sz sa (some (.int (nI 0))) (fun u => ((∀ z, 76 < z → z ≠ 88 → u z = w z) ∧ RC ad cI cJ cD u n t 1 qu en (kp ||| 2 ^ k) dl ou cp ks (va_up pt k a2) co sh vs) ∧ u 88 = .inl (cJ, 1, .inr (.inl (vp_updL ofn 0 (lN 1))))) 0 0 := by
  refine MH.of (by decide) (Nat.le_of_ble_eq_true rfl) ?_
  intro p e s m below meth c ls hC hr hlocks htab hl hw hT
  obtain ⟨hx, hb, hml, hown, hts⟩ := id hC
  have hA : ∀ q, s.heap.size ≤ q → xA ad 89 s.heap.size q := fun q h => Or.inr h
  have hl : lv_has ls 8 [(0, .ref (ad 0)), (1, .int (nI k)), (2, .int (nI f)), (3, .int b1), (4, .int b2), (5, .int b3), (6, .ref (ad 88))] := hl
  obtain ⟨⟨wh, h0, hwh⟩, -⟩ := id hRC
  refine lv_aload hx hb dL_offer_0 (lv_at hl 6 rfl) ?_
  refine lv_iconst (v := nI 0) hx hb dL_offer_2 (by decide) ?_
  refine lv_aload_n hx hb dL_offer_3 rfl (lv_at hl 0 rfl) ?_
  refine lv_iload_n hx hb dL_offer_4 rfl (lv_at hl 1 rfl) ?_
  refine lv_iload_n hx hb dL_offer_5 rfl (lv_at hl 2 rfl) ?_
  refine lv_iload_n hx hb dL_offer_6 rfl (lv_at hl 3 rfl) ?_
  refine lv_iload hx hb dL_offer_7 (lv_at hl 4 rfl) ?_
  refine lv_iload hx hb dL_offer_9 (lv_at hl 5 rfl) ?_
  refine x_callW1 (As := [.int (nI k), .int (nI f), .int b1, .int b2, .int b3]) (rest := [.int (nI 0), .ref (ad 88)]) hC vf_L_57 hw hA (by decide) h0 rfl rfl (c_offerY l n t cl qu en kp dl ou cp ks pt co sh vs hok hRC k f hk1 hk2 hf1 hf2 b1 b2 b3 hcl0 hkpt a2 x2 y2 g1 g2 g3 e1 e2 e3 hyes) ⟨rfl, rfl, Nat.le_of_ble_eq_true rfl, Nat.le_of_ble_eq_true rfl⟩ hl.1 (Nat.le_of_ble_eq_true rfl) dL_offer_11 ⟨Nat.zero_le _, Nat.zero_le _⟩ rfl (fun w_1 H locs hu9 hw => ?_)
  have hO2 : w_1 88 = .inl (cJ, 1, .inr (.inl ofn)) := (hu9.1 88 (by decide)).trans hOut
  refine lv_if_eq (tgt := 21) hx hb dL_offer_14 (by decide) (fun q_2 => absurd q_2 (by decide)) (fun q_2 => ?_)
  refine lv_lconst (v := lN 1) hx hb dL_offer_17 (by decide) ?_
  refine lv_goto (tgt := 22) hx hb dL_offer_18 (by decide) ?_
  refine x_last hx hb hw (by decide) 1 hO2 rfl (j := 0) (by omega) (by decide) dL_offer_22 (fun w_3 H locs ew_4 hw => ?_)
  have hc_5 : w_3 88 = .inl (cJ, 1, .inr (.inl (vp_updL ofn 0 (lN 1)))) := by rw [ew_4]; exact va_up_self _ _ _
  refine lv_goto (tgt := 34) hx hb dL_offer_23 (by decide) ?_
  refine lv_iconst (v := nI 0) hx hb dL_offer_34 (by decide) ?_
  exact x_hret hx hb hr hlocks hw ⟨⟨fun z h1 h2 => by rw [ew_4]; exact (va_up_ne _ _ h2).trans (hu9.1 z h1), RC.of hu9.2 (fun z hz => by rw [ew_4]; exact va_up_ne _ _ (by omega))⟩, hc_5⟩ dL_offer_35
set_option maxHeartbeats 4000000 in
set_option maxRecDepth 100000 in
theorem h_value (l : Launch) {D : va_G} {cI cJ cZ cD : ClassId} {ad : Nat → Nat} {w : Nat → va_E} {sz : Nat} {sa : Nat → Nat} (n t cl qu en kp : Nat) (dl ou cp ks pt : Nat → Nat) (co sh : Nat → Nat → Nat) (vs : Nat → Int64) (hok : OkS n t cl qu en kp dl ou cp ks pt co sh) (hRC : RC ad cI cJ cD w n t cl qu en kp dl ou cp ks pt co sh vs) (b : Nat) (hb0 : b < 2 ^ 17) (hsub : ∀ k, tb b k = 1 → tb kp k = 1) (hv : vOk t kp (nI b)) (hcl0 : cl = 1) (ofn : Nat → Int64) (hOut : w 88 = .inl (cJ, 1, .inr (.inl ofn))) : MH l yL_value (.codeWith yL_value cL_value 4 (some .int) [(0, 9, 12, 19), (0, 9, 15, 13)]) ({ frames := 10, cells := 0, slots := 0, locals := 370 }) [.ref (ad 0), .int (nI b), .ref (ad 88)] D (tyL cI cJ cZ cD) ad 89 w sz sa (some (.int (nI 0))) (fun u => ((∀ z, 76 < z → z ≠ 88 → u z = w z) ∧ RC ad cI cJ cD u n t cl qu en kp dl ou cp ks pt co sh vs) ∧ u 88 = .inl (cJ, 1, .inr (.inl (vp_updL ofn 0 ((nI (cmb b pt 16)).toInt64))))) 0 0 := by
  refine MH.of (by decide) (Nat.le_of_ble_eq_true rfl) ?_
  intro p e s m below meth c ls hC hr hlocks htab hl hw hT
  obtain ⟨hx, hb, hml, hown, hts⟩ := id hC
  have hA : ∀ q, s.heap.size ≤ q → xA ad 89 s.heap.size q := fun q h => Or.inr h
  have hl : lv_has ls 4 [(0, .ref (ad 0)), (1, .int (nI b)), (2, .ref (ad 88))] := hl
  obtain ⟨⟨wh, h0, hwh⟩, -⟩ := id hRC
  refine lv_aload_n hx hb dL_value_0 rfl (lv_at hl 2 rfl) ?_
  refine lv_iconst (v := nI 0) hx hb dL_value_1 (by decide) ?_
  refine lv_aload_n hx hb dL_value_2 rfl (lv_at hl 0 rfl) ?_
  refine lv_iload_n hx hb dL_value_3 rfl (lv_at hl 1 rfl) ?_
  refine x_callW1 (As := [.int (nI b)]) (rest := [.int (nI 0), .ref (ad 88)]) hC vf_L_61 hw hA (by decide) h0 rfl rfl (c_value l n t cl qu en kp dl ou cp ks pt co sh vs hok hRC b hb0 hsub hv hcl0) ⟨rfl, rfl, Nat.le_of_ble_eq_true rfl, Nat.le_of_ble_eq_true rfl⟩ hl.1 (Nat.le_of_ble_eq_true rfl) dL_value_4 ⟨Nat.zero_le _, Nat.zero_le _⟩ rfl (fun w_1 H locs hu9 hw => ?_)
  rw [hu9] at hw
  refine lv_i2l hx hb dL_value_7 rfl ?_
  refine x_last hx hb hw (by decide) 1 hOut rfl (j := 0) (by omega) (by decide) dL_value_8 (fun w_2 H locs ew_3 hw => ?_)
  have hc_4 : w_2 0 = .inr (3, [.ref (ad 1), .ref (ad 70), .ref (ad 71), .ref (ad 72), .ref (ad 76), .int (nI n), .int (nI t), .int (nI cl), .int (nI qu), .int wh]) := by rw [ew_3]; exact (va_up_ne _ _ (by omega)).trans h0
  have hc_5 : w_2 88 = .inl (cJ, 1, .inr (.inl (vp_updL ofn 0 ((nI (cmb b pt 16)).toInt64)))) := by rw [ew_3]; exact va_up_self _ _ _
  refine lv_goto (tgt := 18) hx hb dL_value_9 (by decide) ?_
  refine lv_iconst (v := nI 0) hx hb dL_value_18 (by decide) ?_
  exact x_hret hx hb hr hlocks hw ⟨⟨fun z _ h2 => by rw [ew_3]; exact va_up_ne _ _ h2, RC.of hRC (fun z hz => by rw [ew_3]; exact va_up_ne _ _ (by omega))⟩, hc_5⟩ dL_value_19
set_option maxHeartbeats 4000000 in
set_option maxRecDepth 100000 in
theorem h_valueS (l : Launch) (hl0 : l.stackTraces = false) {D : va_G} {cI cJ cZ cD : ClassId} {ad : Nat → Nat} {w : Nat → va_E} {sz : Nat} {sa : Nat → Nat} (n t cl qu en kp : Nat) (dl ou cp ks pt : Nat → Nat) (co sh : Nat → Nat → Nat) (vs : Nat → Int64) (hok : OkS n t cl qu en kp dl ou cp ks pt co sh) (hRC : RC ad cI cJ cD w n t cl qu en kp dl ou cp ks pt co sh vs) (x : Int32) (hcl0 : cl = 0) : MH l yL_value (.codeWith yL_value cL_value 4 (some .int) [(0, 9, 12, 19), (0, 9, 15, 13)]) ({ frames := 10, cells := 1, slots := 6, locals := 370 }) [.ref (ad 0), .int x, .ref (ad 88)] D (tyL cI cJ cZ cD) ad 89 w sz sa (some (.int (nI 1))) (fun u => u = w) 1 6 := by
  refine MH.of (by decide) (Nat.le_of_ble_eq_true rfl) ?_
  intro p e s m below meth c ls hC hr hlocks htab hl hw hT
  obtain ⟨hx, hb, hml, hown, hts⟩ := id hC
  have hA : ∀ q, s.heap.size ≤ q → xA ad 89 s.heap.size q := fun q h => Or.inr h
  have hl : lv_has ls 4 [(0, .ref (ad 0)), (1, .int x), (2, .ref (ad 88))] := hl
  obtain ⟨⟨wh, h0, hwh⟩, -⟩ := id hRC
  refine lv_aload_n hx hb dL_value_0 rfl (lv_at hl 2 rfl) ?_
  refine lv_iconst (v := nI 0) hx hb dL_value_1 (by decide) ?_
  refine lv_aload_n hx hb dL_value_2 rfl (lv_at hl 0 rfl) ?_
  refine lv_iload_n hx hb dL_value_3 rfl (lv_at hl 1 rfl) ?_
  refine x_caught (As := [.int x]) (rest := [.int (nI 0), .ref (ad 88)]) hC vf_L_61 hw hA hT (by decide) h0 rfl rfl (c_valueS l hl0 n t cl qu en kp dl ou cp ks pt co sh vs hok hRC x hcl0) ⟨rfl, rfl, Nat.le_of_ble_eq_true rfl, Nat.le_of_ble_eq_true rfl⟩ hl.1 (Nat.le_of_ble_eq_true rfl) dL_value_4 ⟨Nat.le_of_ble_eq_true rfl, Nat.le_of_ble_eq_true rfl⟩ rfl (hpc := 12) (Or.inl ⟨⟨0, 9, 12, 19⟩, [⟨0, 9, 15, 13⟩], "java/lang/IllegalStateException", htab, by decide, by decide, (hts _ (List.mem_of_getElem? (i := 120) (by decide +kernel))), (hT.1.2.2.2.1 "java/lang/IllegalStateException" (by decide)), rfl⟩) (fun q9 H locs hw => ?_)
  refine lv_astore_n (lv' := [(3, .ref q9), (0, .ref (ad 0)), (1, .int x), (2, .ref (ad 88))]) hx hb dL_value_12 rfl hl (by decide) rfl (fun ls hl => ?_)
  refine lv_iconst (v := nI 1) hx hb dL_value_13 (by decide) ?_
  exact x_hret hx hb hr hlocks hw rfl dL_value_14
set_option maxHeartbeats 4000000 in
set_option maxRecDepth 100000 in
theorem h_valueA (l : Launch) (hl0 : l.stackTraces = false) {D : va_G} {cI cJ cZ cD : ClassId} {ad : Nat → Nat} {w : Nat → va_E} {sz : Nat} {sa : Nat → Nat} (n t cl qu en kp : Nat) (dl ou cp ks pt : Nat → Nat) (co sh : Nat → Nat → Nat) (vs : Nat → Int64) (hok : OkS n t cl qu en kp dl ou cp ks pt co sh) (hRC : RC ad cI cJ cD w n t cl qu en kp dl ou cp ks pt co sh vs) (x : Int32) (hcl0 : cl = 1) (hbad : ¬ vOk t kp x) : MH l yL_value (.codeWith yL_value cL_value 4 (some .int) [(0, 9, 12, 19), (0, 9, 15, 13)]) ({ frames := 10, cells := 1, slots := 6, locals := 370 }) [.ref (ad 0), .int x, .ref (ad 88)] D (tyL cI cJ cZ cD) ad 89 w sz sa (some (.int (nI 2))) (fun u => u = w) 1 6 := by
  refine MH.of (by decide) (Nat.le_of_ble_eq_true rfl) ?_
  intro p e s m below meth c ls hC hr hlocks htab hl hw hT
  obtain ⟨hx, hb, hml, hown, hts⟩ := id hC
  have hA : ∀ q, s.heap.size ≤ q → xA ad 89 s.heap.size q := fun q h => Or.inr h
  have hl : lv_has ls 4 [(0, .ref (ad 0)), (1, .int x), (2, .ref (ad 88))] := hl
  obtain ⟨⟨wh, h0, hwh⟩, -⟩ := id hRC
  refine lv_aload_n hx hb dL_value_0 rfl (lv_at hl 2 rfl) ?_
  refine lv_iconst (v := nI 0) hx hb dL_value_1 (by decide) ?_
  refine lv_aload_n hx hb dL_value_2 rfl (lv_at hl 0 rfl) ?_
  refine lv_iload_n hx hb dL_value_3 rfl (lv_at hl 1 rfl) ?_
  refine x_caught (As := [.int x]) (rest := [.int (nI 0), .ref (ad 88)]) hC vf_L_61 hw hA hT (by decide) h0 rfl rfl (c_valueA l hl0 n t cl qu en kp dl ou cp ks pt co sh vs hok hRC x hcl0 hbad) ⟨rfl, rfl, Nat.le_of_ble_eq_true rfl, Nat.le_of_ble_eq_true rfl⟩ hl.1 (Nat.le_of_ble_eq_true rfl) dL_value_4 ⟨Nat.le_of_ble_eq_true rfl, Nat.le_of_ble_eq_true rfl⟩ rfl (hpc := 15) (Or.inr ⟨⟨0, 9, 12, 19⟩, ⟨0, 9, 15, 13⟩, [], "java/lang/IllegalStateException", "java/lang/IllegalArgumentException", htab, by decide, by decide, (hts _ (List.mem_of_getElem? (i := 120) (by decide +kernel))), hT.2.2.1, by decide, by decide, (hts _ (List.mem_of_getElem? (i := 74) (by decide +kernel))), (hT.1.2.2.2.1 "java/lang/IllegalArgumentException" (by decide)), rfl⟩) (fun q9 H locs hw => ?_)
  refine lv_astore_n (lv' := [(3, .ref q9), (0, .ref (ad 0)), (1, .int x), (2, .ref (ad 88))]) hx hb dL_value_15 rfl hl (by decide) rfl (fun ls hl => ?_)
  refine lv_iconst (v := nI 2) hx hb dL_value_16 (by decide) ?_
  exact x_hret hx hb hr hlocks hw rfl dL_value_17
set_option maxHeartbeats 4000000 in
set_option maxRecDepth 100000 in
theorem h_publish (l : Launch) {D : va_G} {cI cJ cZ cD : ClassId} {ad : Nat → Nat} {w : Nat → va_E} {sz : Nat} {sa : Nat → Nat} (n t cl qu en kp : Nat) (dl ou cp ks pt : Nat → Nat) (co sh : Nat → Nat → Nat) (vs : Nat → Int64) (hok : OkS n t cl qu en kp dl ou cp ks pt co sh) (hRC : RC ad cI cJ cD w n t cl qu en kp dl ou cp ks pt co sh vs) (hcl0 : cl = 1) (hge : t ≤ pcN kp) (hlt : en < 300) (ofn : Nat → Int64) (hOut : w 88 = .inl (cJ, 1, .inr (.inl ofn))) : MH l yL_publish (.codeWith yL_publish cL_publish 3 (some .int) [(0, 8, 11, 19), (0, 8, 14, 67)]) ({ frames := 10, cells := 0, slots := 0, locals := 370 }) [.ref (ad 0), .ref (ad 88)] D (tyL cI cJ cZ cD) ad 89 w sz sa (some (.int (nI 0))) (fun u => ((∀ z, 76 < z → z ≠ 88 → u z = w z) ∧ RC ad cI cJ cD u n t 1 qu (en + 1) 0 dl ou cp ks pt co sh (vp_updL vs (en + 1) (lN (cmb (lst kp t 16).1 pt 16)))) ∧ u 88 = .inl (cJ, 1, .inr (.inl (vp_updL ofn 0 ((nI (cmb (lst kp t 16).1 pt 16)).toInt64))))) 0 0 := by
  refine MH.of (by decide) (Nat.le_of_ble_eq_true rfl) ?_
  intro p e s m below meth c ls hC hr hlocks htab hl hw hT
  obtain ⟨hx, hb, hml, hown, hts⟩ := id hC
  have hA : ∀ q, s.heap.size ≤ q → xA ad 89 s.heap.size q := fun q h => Or.inr h
  have hl : lv_has ls 3 [(0, .ref (ad 0)), (1, .ref (ad 88))] := hl
  obtain ⟨⟨wh, h0, hwh⟩, -⟩ := id hRC
  refine lv_aload_n hx hb dL_publish_0 rfl (lv_at hl 1 rfl) ?_
  refine lv_iconst (v := nI 0) hx hb dL_publish_1 (by decide) ?_
  refine lv_aload_n hx hb dL_publish_2 rfl (lv_at hl 0 rfl) ?_
  refine x_callW1 (As := []) (rest := [.int (nI 0), .ref (ad 88)]) hC vf_L_64 hw hA (by decide) h0 rfl rfl (c_publish l n t cl qu en kp dl ou cp ks pt co sh vs hok hRC hcl0 hge hlt) ⟨rfl, rfl, Nat.le_of_ble_eq_true rfl, Nat.le_of_ble_eq_true rfl⟩ hl.1 (Nat.le_of_ble_eq_true rfl) dL_publish_3 ⟨Nat.zero_le _, Nat.zero_le _⟩ rfl (fun w_1 H locs hu9 hw => ?_)
  have hO2 : w_1 88 = .inl (cJ, 1, .inr (.inl ofn)) := (hu9.1 88 (by decide)).trans hOut
  refine lv_i2l hx hb dL_publish_6 rfl ?_
  refine x_last hx hb hw (by decide) 1 hO2 rfl (j := 0) (by omega) (by decide) dL_publish_7 (fun w_2 H locs ew_3 hw => ?_)
  have hc_4 : w_2 88 = .inl (cJ, 1, .inr (.inl (vp_updL ofn 0 ((nI (cmb (lst kp t 16).1 pt 16)).toInt64)))) := by rw [ew_3]; exact va_up_self _ _ _
  refine lv_goto (tgt := 17) hx hb dL_publish_8 (by decide) ?_
  refine lv_iconst (v := nI 0) hx hb dL_publish_17 (by decide) ?_
  exact x_hret hx hb hr hlocks hw ⟨⟨fun z h1 h2 => by rw [ew_3]; exact (va_up_ne _ _ h2).trans (hu9.1 z h1), RC.of hu9.2 (fun z hz => by rw [ew_3]; exact va_up_ne _ _ (by omega))⟩, hc_4⟩ dL_publish_18
set_option maxHeartbeats 4000000 in
set_option maxRecDepth 100000 in
theorem h_publishS1 (l : Launch) (hl0 : l.stackTraces = false) {D : va_G} {cI cJ cZ cD : ClassId} {ad : Nat → Nat} {w : Nat → va_E} {sz : Nat} {sa : Nat → Nat} (n t cl qu en kp : Nat) (dl ou cp ks pt : Nat → Nat) (co sh : Nat → Nat → Nat) (vs : Nat → Int64) (hok : OkS n t cl qu en kp dl ou cp ks pt co sh) (hRC : RC ad cI cJ cD w n t cl qu en kp dl ou cp ks pt co sh vs) (hcl0 : cl = 0) : MH l yL_publish (.codeWith yL_publish cL_publish 3 (some .int) [(0, 8, 11, 19), (0, 8, 14, 67)]) ({ frames := 10, cells := 1, slots := 6, locals := 370 }) [.ref (ad 0), .ref (ad 88)] D (tyL cI cJ cZ cD) ad 89 w sz sa (some (.int (nI 1))) (fun u => u = w) 1 6 := by
  refine MH.of (by decide) (Nat.le_of_ble_eq_true rfl) ?_
  intro p e s m below meth c ls hC hr hlocks htab hl hw hT
  obtain ⟨hx, hb, hml, hown, hts⟩ := id hC
  have hA : ∀ q, s.heap.size ≤ q → xA ad 89 s.heap.size q := fun q h => Or.inr h
  have hl : lv_has ls 3 [(0, .ref (ad 0)), (1, .ref (ad 88))] := hl
  obtain ⟨⟨wh, h0, hwh⟩, -⟩ := id hRC
  refine lv_aload_n hx hb dL_publish_0 rfl (lv_at hl 1 rfl) ?_
  refine lv_iconst (v := nI 0) hx hb dL_publish_1 (by decide) ?_
  refine lv_aload_n hx hb dL_publish_2 rfl (lv_at hl 0 rfl) ?_
  refine x_caught (As := []) (rest := [.int (nI 0), .ref (ad 88)]) hC vf_L_64 hw hA hT (by decide) h0 rfl rfl (c_publishS1 l hl0 n t cl qu en kp dl ou cp ks pt co sh vs hok hRC hcl0) ⟨rfl, rfl, Nat.le_of_ble_eq_true rfl, Nat.le_of_ble_eq_true rfl⟩ hl.1 (Nat.le_of_ble_eq_true rfl) dL_publish_3 ⟨Nat.le_of_ble_eq_true rfl, Nat.le_of_ble_eq_true rfl⟩ rfl (hpc := 11) (Or.inl ⟨⟨0, 8, 11, 19⟩, [⟨0, 8, 14, 67⟩], "java/lang/IllegalStateException", htab, by decide, by decide, (hts _ (List.mem_of_getElem? (i := 120) (by decide +kernel))), (hT.1.2.2.2.1 "java/lang/IllegalStateException" (by decide)), rfl⟩) (fun q9 H locs hw => ?_)
  refine lv_astore_n (lv' := [(2, .ref q9), (0, .ref (ad 0)), (1, .ref (ad 88))]) hx hb dL_publish_11 rfl hl (by decide) rfl (fun ls hl => ?_)
  refine lv_iconst (v := nI 1) hx hb dL_publish_12 (by decide) ?_
  exact x_hret hx hb hr hlocks hw rfl dL_publish_13
set_option maxHeartbeats 4000000 in
set_option maxRecDepth 100000 in
theorem h_publishS2 (l : Launch) (hl0 : l.stackTraces = false) {D : va_G} {cI cJ cZ cD : ClassId} {ad : Nat → Nat} {w : Nat → va_E} {sz : Nat} {sa : Nat → Nat} (n t cl qu en kp : Nat) (dl ou cp ks pt : Nat → Nat) (co sh : Nat → Nat → Nat) (vs : Nat → Int64) (hok : OkS n t cl qu en kp dl ou cp ks pt co sh) (hRC : RC ad cI cJ cD w n t cl qu en kp dl ou cp ks pt co sh vs) (hcl0 : cl = 1) (hge : pcN kp < t) : MH l yL_publish (.codeWith yL_publish cL_publish 3 (some .int) [(0, 8, 11, 19), (0, 8, 14, 67)]) ({ frames := 10, cells := 1, slots := 6, locals := 370 }) [.ref (ad 0), .ref (ad 88)] D (tyL cI cJ cZ cD) ad 89 w sz sa (some (.int (nI 1))) (fun u => u = w) 1 6 := by
  refine MH.of (by decide) (Nat.le_of_ble_eq_true rfl) ?_
  intro p e s m below meth c ls hC hr hlocks htab hl hw hT
  obtain ⟨hx, hb, hml, hown, hts⟩ := id hC
  have hA : ∀ q, s.heap.size ≤ q → xA ad 89 s.heap.size q := fun q h => Or.inr h
  have hl : lv_has ls 3 [(0, .ref (ad 0)), (1, .ref (ad 88))] := hl
  obtain ⟨⟨wh, h0, hwh⟩, -⟩ := id hRC
  refine lv_aload_n hx hb dL_publish_0 rfl (lv_at hl 1 rfl) ?_
  refine lv_iconst (v := nI 0) hx hb dL_publish_1 (by decide) ?_
  refine lv_aload_n hx hb dL_publish_2 rfl (lv_at hl 0 rfl) ?_
  refine x_caught (As := []) (rest := [.int (nI 0), .ref (ad 88)]) hC vf_L_64 hw hA hT (by decide) h0 rfl rfl (c_publishS2 l hl0 n t cl qu en kp dl ou cp ks pt co sh vs hok hRC hcl0 hge) ⟨rfl, rfl, Nat.le_of_ble_eq_true rfl, Nat.le_of_ble_eq_true rfl⟩ hl.1 (Nat.le_of_ble_eq_true rfl) dL_publish_3 ⟨Nat.le_of_ble_eq_true rfl, Nat.le_of_ble_eq_true rfl⟩ rfl (hpc := 11) (Or.inl ⟨⟨0, 8, 11, 19⟩, [⟨0, 8, 14, 67⟩], "java/lang/IllegalStateException", htab, by decide, by decide, (hts _ (List.mem_of_getElem? (i := 120) (by decide +kernel))), (hT.1.2.2.2.1 "java/lang/IllegalStateException" (by decide)), rfl⟩) (fun q9 H locs hw => ?_)
  refine lv_astore_n (lv' := [(2, .ref q9), (0, .ref (ad 0)), (1, .ref (ad 88))]) hx hb dL_publish_11 rfl hl (by decide) rfl (fun ls hl => ?_)
  refine lv_iconst (v := nI 1) hx hb dL_publish_12 (by decide) ?_
  exact x_hret hx hb hr hlocks hw rfl dL_publish_13
set_option maxHeartbeats 4000000 in
set_option maxRecDepth 100000 in
theorem h_publishU (l : Launch) (hl0 : l.stackTraces = false) {D : va_G} {cI cJ cZ cD : ClassId} {ad : Nat → Nat} {w : Nat → va_E} {sz : Nat} {sa : Nat → Nat} (n t cl qu en kp : Nat) (dl ou cp ks pt : Nat → Nat) (co sh : Nat → Nat → Nat) (vs : Nat → Int64) (hok : OkS n t cl qu en kp dl ou cp ks pt co sh) (hRC : RC ad cI cJ cD w n t cl qu en kp dl ou cp ks pt co sh vs) (hcl0 : cl = 1) (hge : t ≤ pcN kp) (hlt : en = 300) : MH l yL_publish (.codeWith yL_publish cL_publish 3 (some .int) [(0, 8, 11, 19), (0, 8, 14, 67)]) ({ frames := 10, cells := 1, slots := 6, locals := 370 }) [.ref (ad 0), .ref (ad 88)] D (tyL cI cJ cZ cD) ad 89 w sz sa (some (.int (nI 2))) (fun u => u = w) 1 6 := by
  refine MH.of (by decide) (Nat.le_of_ble_eq_true rfl) ?_
  intro p e s m below meth c ls hC hr hlocks htab hl hw hT
  obtain ⟨hx, hb, hml, hown, hts⟩ := id hC
  have hA : ∀ q, s.heap.size ≤ q → xA ad 89 s.heap.size q := fun q h => Or.inr h
  have hl : lv_has ls 3 [(0, .ref (ad 0)), (1, .ref (ad 88))] := hl
  obtain ⟨⟨wh, h0, hwh⟩, -⟩ := id hRC
  refine lv_aload_n hx hb dL_publish_0 rfl (lv_at hl 1 rfl) ?_
  refine lv_iconst (v := nI 0) hx hb dL_publish_1 (by decide) ?_
  refine lv_aload_n hx hb dL_publish_2 rfl (lv_at hl 0 rfl) ?_
  refine x_caught (As := []) (rest := [.int (nI 0), .ref (ad 88)]) hC vf_L_64 hw hA hT (by decide) h0 rfl rfl (c_publishU l hl0 n t cl qu en kp dl ou cp ks pt co sh vs hok hRC hcl0 hge hlt) ⟨rfl, rfl, Nat.le_of_ble_eq_true rfl, Nat.le_of_ble_eq_true rfl⟩ hl.1 (Nat.le_of_ble_eq_true rfl) dL_publish_3 ⟨Nat.le_of_ble_eq_true rfl, Nat.le_of_ble_eq_true rfl⟩ rfl (hpc := 14) (Or.inr ⟨⟨0, 8, 11, 19⟩, ⟨0, 8, 14, 67⟩, [], "java/lang/IllegalStateException", "java/lang/UnsupportedOperationException", htab, by decide, by decide, (hts _ (List.mem_of_getElem? (i := 120) (by decide +kernel))), hT.2.2.2, by decide, by decide, (hts _ (List.mem_of_getElem? (i := 526) (by decide +kernel))), (hT.1.2.2.2.1 "java/lang/UnsupportedOperationException" (by decide)), rfl⟩) (fun q9 H locs hw => ?_)
  refine lv_astore_n (lv' := [(2, .ref q9), (0, .ref (ad 0)), (1, .ref (ad 88))]) hx hb dL_publish_14 rfl hl (by decide) rfl (fun ls hl => ?_)
  refine lv_iconst (v := nI 2) hx hb dL_publish_15 (by decide) ?_
  exact x_hret hx hb hr hlocks hw rfl dL_publish_16
set_option maxHeartbeats 4000000 in
set_option maxRecDepth 100000 in
theorem h_ended (l : Launch) {D : va_G} {cI cJ cZ cD : ClassId} {ad : Nat → Nat} {w : Nat → va_E} {sz : Nat} {sa : Nat → Nat} (n t cl qu en kp : Nat) (dl ou cp ks pt : Nat → Nat) (co sh : Nat → Nat → Nat) (vs : Nat → Int64) (hok : OkS n t cl qu en kp dl ou cp ks pt co sh) (hRC : RC ad cI cJ cD w n t cl qu en kp dl ou cp ks pt co sh vs) (r : Nat) (hr0 : r ≤ en) (hcl0 : cl = 1) (ofn : Nat → Int64) (hOut : w 88 = .inl (cJ, 1, .inr (.inl ofn))) : MH l yL_ended (.codeWith yL_ended cL_ended 4 (some .int) [(0, 8, 11, 13), (0, 8, 14, 19)]) ({ frames := 10, cells := 0, slots := 0, locals := 370 }) [.ref (ad 0), .int (nI r), .ref (ad 88)] D (tyL cI cJ cZ cD) ad 89 w sz sa (some (.int (nI 0))) (fun u => ((∀ z, 76 < z → z ≠ 88 → u z = w z) ∧ RC ad cI cJ cD u n t cl qu en kp dl ou cp ks pt co sh vs) ∧ u 88 = .inl (cJ, 1, .inr (.inl (vp_updL ofn 0 (vs r))))) 0 0 := by
  refine MH.of (by decide) (Nat.le_of_ble_eq_true rfl) ?_
  intro p e s m below meth c ls hC hr hlocks htab hl hw hT
  obtain ⟨hx, hb, hml, hown, hts⟩ := id hC
  have hA : ∀ q, s.heap.size ≤ q → xA ad 89 s.heap.size q := fun q h => Or.inr h
  have hl : lv_has ls 4 [(0, .ref (ad 0)), (1, .int (nI r)), (2, .ref (ad 88))] := hl
  obtain ⟨⟨wh, h0, hwh⟩, -⟩ := id hRC
  refine lv_aload_n hx hb dL_ended_0 rfl (lv_at hl 2 rfl) ?_
  refine lv_iconst (v := nI 0) hx hb dL_ended_1 (by decide) ?_
  refine lv_aload_n hx hb dL_ended_2 rfl (lv_at hl 0 rfl) ?_
  refine lv_iload_n hx hb dL_ended_3 rfl (lv_at hl 1 rfl) ?_
  refine x_callW1 (As := [.int (nI r)]) (rest := [.int (nI 0), .ref (ad 88)]) hC vf_L_69 hw hA (by decide) h0 rfl rfl (c_ended l n t cl qu en kp dl ou cp ks pt co sh vs hok hRC r hr0 hcl0) ⟨rfl, rfl, Nat.le_of_ble_eq_true rfl, Nat.le_of_ble_eq_true rfl⟩ hl.1 (Nat.le_of_ble_eq_true rfl) dL_ended_4 ⟨Nat.zero_le _, Nat.zero_le _⟩ rfl (fun w_1 H locs hu9 hw => ?_)
  rw [hu9] at hw
  refine x_last hx hb hw (by decide) 1 hOut rfl (j := 0) (by omega) (by decide) dL_ended_7 (fun w_2 H locs ew_3 hw => ?_)
  have hc_4 : w_2 0 = .inr (3, [.ref (ad 1), .ref (ad 70), .ref (ad 71), .ref (ad 72), .ref (ad 76), .int (nI n), .int (nI t), .int (nI cl), .int (nI qu), .int wh]) := by rw [ew_3]; exact (va_up_ne _ _ (by omega)).trans h0
  have hc_5 : w_2 88 = .inl (cJ, 1, .inr (.inl (vp_updL ofn 0 (vs r)))) := by rw [ew_3]; exact va_up_self _ _ _
  refine lv_goto (tgt := 17) hx hb dL_ended_8 (by decide) ?_
  refine lv_iconst (v := nI 0) hx hb dL_ended_17 (by decide) ?_
  exact x_hret hx hb hr hlocks hw ⟨⟨fun z _ h2 => by rw [ew_3]; exact va_up_ne _ _ h2, RC.of hRC (fun z hz => by rw [ew_3]; exact va_up_ne _ _ (by omega))⟩, hc_5⟩ dL_ended_18
set_option maxHeartbeats 4000000 in
set_option maxRecDepth 100000 in
theorem h_endedN (l : Launch) (hl0 : l.stackTraces = false) {D : va_G} {cI cJ cZ cD : ClassId} {ad : Nat → Nat} {w : Nat → va_E} {sz : Nat} {sa : Nat → Nat} (n t cl qu en kp : Nat) (dl ou cp ks pt : Nat → Nat) (co sh : Nat → Nat → Nat) (vs : Nat → Int64) (hok : OkS n t cl qu en kp dl ou cp ks pt co sh) (hRC : RC ad cI cJ cD w n t cl qu en kp dl ou cp ks pt co sh vs) (r : Int32) (hr0 : r < 0) : MH l yL_ended (.codeWith yL_ended cL_ended 4 (some .int) [(0, 8, 11, 13), (0, 8, 14, 19)]) ({ frames := 10, cells := 1, slots := 6, locals := 370 }) [.ref (ad 0), .int r, .ref (ad 88)] D (tyL cI cJ cZ cD) ad 89 w sz sa (some (.int (nI 1))) (fun u => u = w) 1 6 := by
  refine MH.of (by decide) (Nat.le_of_ble_eq_true rfl) ?_
  intro p e s m below meth c ls hC hr hlocks htab hl hw hT
  obtain ⟨hx, hb, hml, hown, hts⟩ := id hC
  have hA : ∀ q, s.heap.size ≤ q → xA ad 89 s.heap.size q := fun q h => Or.inr h
  have hl : lv_has ls 4 [(0, .ref (ad 0)), (1, .int r), (2, .ref (ad 88))] := hl
  obtain ⟨⟨wh, h0, hwh⟩, -⟩ := id hRC
  refine lv_aload_n hx hb dL_ended_0 rfl (lv_at hl 2 rfl) ?_
  refine lv_iconst (v := nI 0) hx hb dL_ended_1 (by decide) ?_
  refine lv_aload_n hx hb dL_ended_2 rfl (lv_at hl 0 rfl) ?_
  refine lv_iload_n hx hb dL_ended_3 rfl (lv_at hl 1 rfl) ?_
  refine x_caught (As := [.int r]) (rest := [.int (nI 0), .ref (ad 88)]) hC vf_L_69 hw hA hT (by decide) h0 rfl rfl (c_endedN l hl0 n t cl qu en kp dl ou cp ks pt co sh vs hok hRC r hr0) ⟨rfl, rfl, Nat.le_of_ble_eq_true rfl, Nat.le_of_ble_eq_true rfl⟩ hl.1 (Nat.le_of_ble_eq_true rfl) dL_ended_4 ⟨Nat.le_of_ble_eq_true rfl, Nat.le_of_ble_eq_true rfl⟩ rfl (hpc := 11) (Or.inl ⟨⟨0, 8, 11, 13⟩, [⟨0, 8, 14, 19⟩], "java/lang/IllegalArgumentException", htab, by decide, by decide, (hts _ (List.mem_of_getElem? (i := 74) (by decide +kernel))), (hT.1.2.2.2.1 "java/lang/IllegalArgumentException" (by decide)), rfl⟩) (fun q9 H locs hw => ?_)
  refine lv_astore_n (lv' := [(3, .ref q9), (0, .ref (ad 0)), (1, .int r), (2, .ref (ad 88))]) hx hb dL_ended_11 rfl hl (by decide) rfl (fun ls hl => ?_)
  refine lv_iconst (v := nI 1) hx hb dL_ended_12 (by decide) ?_
  exact x_hret hx hb hr hlocks hw rfl dL_ended_13
set_option maxHeartbeats 4000000 in
set_option maxRecDepth 100000 in
theorem h_endedC (l : Launch) (hl0 : l.stackTraces = false) {D : va_G} {cI cJ cZ cD : ClassId} {ad : Nat → Nat} {w : Nat → va_E} {sz : Nat} {sa : Nat → Nat} (n t cl qu en kp : Nat) (dl ou cp ks pt : Nat → Nat) (co sh : Nat → Nat → Nat) (vs : Nat → Int64) (hok : OkS n t cl qu en kp dl ou cp ks pt co sh) (hRC : RC ad cI cJ cD w n t cl qu en kp dl ou cp ks pt co sh vs) (r : Int32) (hr0 : ¬ r < 0) (hcl0 : cl = 0) : MH l yL_ended (.codeWith yL_ended cL_ended 4 (some .int) [(0, 8, 11, 13), (0, 8, 14, 19)]) ({ frames := 10, cells := 1, slots := 6, locals := 370 }) [.ref (ad 0), .int r, .ref (ad 88)] D (tyL cI cJ cZ cD) ad 89 w sz sa (some (.int (nI 2))) (fun u => u = w) 1 6 := by
  refine MH.of (by decide) (Nat.le_of_ble_eq_true rfl) ?_
  intro p e s m below meth c ls hC hr hlocks htab hl hw hT
  obtain ⟨hx, hb, hml, hown, hts⟩ := id hC
  have hA : ∀ q, s.heap.size ≤ q → xA ad 89 s.heap.size q := fun q h => Or.inr h
  have hl : lv_has ls 4 [(0, .ref (ad 0)), (1, .int r), (2, .ref (ad 88))] := hl
  obtain ⟨⟨wh, h0, hwh⟩, -⟩ := id hRC
  refine lv_aload_n hx hb dL_ended_0 rfl (lv_at hl 2 rfl) ?_
  refine lv_iconst (v := nI 0) hx hb dL_ended_1 (by decide) ?_
  refine lv_aload_n hx hb dL_ended_2 rfl (lv_at hl 0 rfl) ?_
  refine lv_iload_n hx hb dL_ended_3 rfl (lv_at hl 1 rfl) ?_
  refine x_caught (As := [.int r]) (rest := [.int (nI 0), .ref (ad 88)]) hC vf_L_69 hw hA hT (by decide) h0 rfl rfl (c_endedC l hl0 n t cl qu en kp dl ou cp ks pt co sh vs hok hRC r hr0 hcl0) ⟨rfl, rfl, Nat.le_of_ble_eq_true rfl, Nat.le_of_ble_eq_true rfl⟩ hl.1 (Nat.le_of_ble_eq_true rfl) dL_ended_4 ⟨Nat.le_of_ble_eq_true rfl, Nat.le_of_ble_eq_true rfl⟩ rfl (hpc := 14) (Or.inr ⟨⟨0, 8, 11, 13⟩, ⟨0, 8, 14, 19⟩, [], "java/lang/IllegalArgumentException", "java/lang/IllegalStateException", htab, by decide, by decide, (hts _ (List.mem_of_getElem? (i := 74) (by decide +kernel))), hT.2.1, by decide, by decide, (hts _ (List.mem_of_getElem? (i := 120) (by decide +kernel))), (hT.1.2.2.2.1 "java/lang/IllegalStateException" (by decide)), rfl⟩) (fun q9 H locs hw => ?_)
  refine lv_astore_n (lv' := [(3, .ref q9), (0, .ref (ad 0)), (1, .int r), (2, .ref (ad 88))]) hx hb dL_ended_14 rfl hl (by decide) rfl (fun ls hl => ?_)
  refine lv_iconst (v := nI 2) hx hb dL_ended_15 (by decide) ?_
  exact x_hret hx hb hr hlocks hw rfl dL_ended_16
set_option maxHeartbeats 4000000 in
set_option maxRecDepth 100000 in
theorem h_endedA (l : Launch) (hl0 : l.stackTraces = false) {D : va_G} {cI cJ cZ cD : ClassId} {ad : Nat → Nat} {w : Nat → va_E} {sz : Nat} {sa : Nat → Nat} (n t cl qu en kp : Nat) (dl ou cp ks pt : Nat → Nat) (co sh : Nat → Nat → Nat) (vs : Nat → Int64) (hok : OkS n t cl qu en kp dl ou cp ks pt co sh) (hRC : RC ad cI cJ cD w n t cl qu en kp dl ou cp ks pt co sh vs) (r : Int32) (hr0 : ¬ r < 0) (hr1 : ¬ r ≤ nI en) (hcl0 : cl = 1) : MH l yL_ended (.codeWith yL_ended cL_ended 4 (some .int) [(0, 8, 11, 13), (0, 8, 14, 19)]) ({ frames := 10, cells := 1, slots := 6, locals := 370 }) [.ref (ad 0), .int r, .ref (ad 88)] D (tyL cI cJ cZ cD) ad 89 w sz sa (some (.int (nI 1))) (fun u => u = w) 1 6 := by
  refine MH.of (by decide) (Nat.le_of_ble_eq_true rfl) ?_
  intro p e s m below meth c ls hC hr hlocks htab hl hw hT
  obtain ⟨hx, hb, hml, hown, hts⟩ := id hC
  have hA : ∀ q, s.heap.size ≤ q → xA ad 89 s.heap.size q := fun q h => Or.inr h
  have hl : lv_has ls 4 [(0, .ref (ad 0)), (1, .int r), (2, .ref (ad 88))] := hl
  obtain ⟨⟨wh, h0, hwh⟩, -⟩ := id hRC
  refine lv_aload_n hx hb dL_ended_0 rfl (lv_at hl 2 rfl) ?_
  refine lv_iconst (v := nI 0) hx hb dL_ended_1 (by decide) ?_
  refine lv_aload_n hx hb dL_ended_2 rfl (lv_at hl 0 rfl) ?_
  refine lv_iload_n hx hb dL_ended_3 rfl (lv_at hl 1 rfl) ?_
  refine x_caught (As := [.int r]) (rest := [.int (nI 0), .ref (ad 88)]) hC vf_L_69 hw hA hT (by decide) h0 rfl rfl (c_endedA l hl0 n t cl qu en kp dl ou cp ks pt co sh vs hok hRC r hr0 hr1 hcl0) ⟨rfl, rfl, Nat.le_of_ble_eq_true rfl, Nat.le_of_ble_eq_true rfl⟩ hl.1 (Nat.le_of_ble_eq_true rfl) dL_ended_4 ⟨Nat.le_of_ble_eq_true rfl, Nat.le_of_ble_eq_true rfl⟩ rfl (hpc := 11) (Or.inl ⟨⟨0, 8, 11, 13⟩, [⟨0, 8, 14, 19⟩], "java/lang/IllegalArgumentException", htab, by decide, by decide, (hts _ (List.mem_of_getElem? (i := 74) (by decide +kernel))), (hT.1.2.2.2.1 "java/lang/IllegalArgumentException" (by decide)), rfl⟩) (fun q9 H locs hw => ?_)
  refine lv_astore_n (lv' := [(3, .ref q9), (0, .ref (ad 0)), (1, .int r), (2, .ref (ad 88))]) hx hb dL_ended_11 rfl hl (by decide) rfl (fun ls hl => ?_)
  refine lv_iconst (v := nI 1) hx hb dL_ended_12 (by decide) ?_
  exact x_hret hx hb hr hlocks hw rfl dL_ended_13
set_option maxHeartbeats 4000000 in
set_option maxRecDepth 100000 in
theorem h_random (l : Launch) {D : va_G} {cI cJ cZ cD : ClassId} {ad : Nat → Nat} {w : Nat → va_E} {sz : Nat} {sa : Nat → Nat} (n t cl qu en kp : Nat) (dl ou cp ks pt : Nat → Nat) (co sh : Nat → Nat → Nat) (vs : Nat → Int64) (hok : OkS n t cl qu en kp dl ou cp ks pt co sh) (hRC : RC ad cI cJ cD w n t cl qu en kp dl ou cp ks pt co sh vs) (r : Nat) (hr0 : r ≤ en) (hcl0 : cl = 1) (ofn : Nat → Int64) (hOut : w 88 = .inl (cJ, 1, .inr (.inl ofn))) : MH l yL_random (.codeWith yL_random cL_random 4 (some .int) [(0, 8, 11, 13), (0, 8, 14, 19)]) ({ frames := 10, cells := 0, slots := 0, locals := 370 }) [.ref (ad 0), .int (nI r), .ref (ad 88)] D (tyL cI cJ cZ cD) ad 89 w sz sa (some (.int (nI 0))) (fun u => ((∀ z, 76 < z → z ≠ 88 → u z = w z) ∧ RC ad cI cJ cD u n t cl qu en kp dl ou cp ks pt co sh vs) ∧ u 88 = .inl (cJ, 1, .inr (.inl (vp_updL ofn 0 (stirF (stirF (lN 0) (vs r)) (lN r)))))) 0 0 := by
  refine MH.of (by decide) (Nat.le_of_ble_eq_true rfl) ?_
  intro p e s m below meth c ls hC hr hlocks htab hl hw hT
  obtain ⟨hx, hb, hml, hown, hts⟩ := id hC
  have hA : ∀ q, s.heap.size ≤ q → xA ad 89 s.heap.size q := fun q h => Or.inr h
  have hl : lv_has ls 4 [(0, .ref (ad 0)), (1, .int (nI r)), (2, .ref (ad 88))] := hl
  obtain ⟨⟨wh, h0, hwh⟩, -⟩ := id hRC
  refine lv_aload_n hx hb dL_random_0 rfl (lv_at hl 2 rfl) ?_
  refine lv_iconst (v := nI 0) hx hb dL_random_1 (by decide) ?_
  refine lv_aload_n hx hb dL_random_2 rfl (lv_at hl 0 rfl) ?_
  refine lv_iload_n hx hb dL_random_3 rfl (lv_at hl 1 rfl) ?_
  refine x_callW1 (As := [.int (nI r)]) (rest := [.int (nI 0), .ref (ad 88)]) hC vf_L_73 hw hA (by decide) h0 rfl rfl (c_random l n t cl qu en kp dl ou cp ks pt co sh vs hok hRC r hr0 hcl0) ⟨rfl, rfl, Nat.le_of_ble_eq_true rfl, Nat.le_of_ble_eq_true rfl⟩ hl.1 (Nat.le_of_ble_eq_true rfl) dL_random_4 ⟨Nat.zero_le _, Nat.zero_le _⟩ rfl (fun w_1 H locs hu9 hw => ?_)
  rw [hu9] at hw
  refine x_last hx hb hw (by decide) 1 hOut rfl (j := 0) (by omega) (by decide) dL_random_7 (fun w_2 H locs ew_3 hw => ?_)
  have hc_4 : w_2 0 = .inr (3, [.ref (ad 1), .ref (ad 70), .ref (ad 71), .ref (ad 72), .ref (ad 76), .int (nI n), .int (nI t), .int (nI cl), .int (nI qu), .int wh]) := by rw [ew_3]; exact (va_up_ne _ _ (by omega)).trans h0
  have hc_5 : w_2 88 = .inl (cJ, 1, .inr (.inl (vp_updL ofn 0 (stirF (stirF (lN 0) (vs r)) (lN r))))) := by rw [ew_3]; exact va_up_self _ _ _
  refine lv_goto (tgt := 17) hx hb dL_random_8 (by decide) ?_
  refine lv_iconst (v := nI 0) hx hb dL_random_17 (by decide) ?_
  exact x_hret hx hb hr hlocks hw ⟨⟨fun z _ h2 => by rw [ew_3]; exact va_up_ne _ _ h2, RC.of hRC (fun z hz => by rw [ew_3]; exact va_up_ne _ _ (by omega))⟩, hc_5⟩ dL_random_18
set_option maxHeartbeats 4000000 in
set_option maxRecDepth 100000 in
theorem h_randomN (l : Launch) (hl0 : l.stackTraces = false) {D : va_G} {cI cJ cZ cD : ClassId} {ad : Nat → Nat} {w : Nat → va_E} {sz : Nat} {sa : Nat → Nat} (n t cl qu en kp : Nat) (dl ou cp ks pt : Nat → Nat) (co sh : Nat → Nat → Nat) (vs : Nat → Int64) (hok : OkS n t cl qu en kp dl ou cp ks pt co sh) (hRC : RC ad cI cJ cD w n t cl qu en kp dl ou cp ks pt co sh vs) (r : Int32) (hr0 : r < 0) : MH l yL_random (.codeWith yL_random cL_random 4 (some .int) [(0, 8, 11, 13), (0, 8, 14, 19)]) ({ frames := 10, cells := 1, slots := 6, locals := 370 }) [.ref (ad 0), .int r, .ref (ad 88)] D (tyL cI cJ cZ cD) ad 89 w sz sa (some (.int (nI 1))) (fun u => u = w) 1 6 := by
  refine MH.of (by decide) (Nat.le_of_ble_eq_true rfl) ?_
  intro p e s m below meth c ls hC hr hlocks htab hl hw hT
  obtain ⟨hx, hb, hml, hown, hts⟩ := id hC
  have hA : ∀ q, s.heap.size ≤ q → xA ad 89 s.heap.size q := fun q h => Or.inr h
  have hl : lv_has ls 4 [(0, .ref (ad 0)), (1, .int r), (2, .ref (ad 88))] := hl
  obtain ⟨⟨wh, h0, hwh⟩, -⟩ := id hRC
  refine lv_aload_n hx hb dL_random_0 rfl (lv_at hl 2 rfl) ?_
  refine lv_iconst (v := nI 0) hx hb dL_random_1 (by decide) ?_
  refine lv_aload_n hx hb dL_random_2 rfl (lv_at hl 0 rfl) ?_
  refine lv_iload_n hx hb dL_random_3 rfl (lv_at hl 1 rfl) ?_
  refine x_caught (As := [.int r]) (rest := [.int (nI 0), .ref (ad 88)]) hC vf_L_73 hw hA hT (by decide) h0 rfl rfl (c_randomN l hl0 n t cl qu en kp dl ou cp ks pt co sh vs hok hRC r hr0) ⟨rfl, rfl, Nat.le_of_ble_eq_true rfl, Nat.le_of_ble_eq_true rfl⟩ hl.1 (Nat.le_of_ble_eq_true rfl) dL_random_4 ⟨Nat.le_of_ble_eq_true rfl, Nat.le_of_ble_eq_true rfl⟩ rfl (hpc := 11) (Or.inl ⟨⟨0, 8, 11, 13⟩, [⟨0, 8, 14, 19⟩], "java/lang/IllegalArgumentException", htab, by decide, by decide, (hts _ (List.mem_of_getElem? (i := 74) (by decide +kernel))), (hT.1.2.2.2.1 "java/lang/IllegalArgumentException" (by decide)), rfl⟩) (fun q9 H locs hw => ?_)
  refine lv_astore_n (lv' := [(3, .ref q9), (0, .ref (ad 0)), (1, .int r), (2, .ref (ad 88))]) hx hb dL_random_11 rfl hl (by decide) rfl (fun ls hl => ?_)
  refine lv_iconst (v := nI 1) hx hb dL_random_12 (by decide) ?_
  exact x_hret hx hb hr hlocks hw rfl dL_random_13
set_option maxHeartbeats 4000000 in
set_option maxRecDepth 100000 in
theorem h_randomC (l : Launch) (hl0 : l.stackTraces = false) {D : va_G} {cI cJ cZ cD : ClassId} {ad : Nat → Nat} {w : Nat → va_E} {sz : Nat} {sa : Nat → Nat} (n t cl qu en kp : Nat) (dl ou cp ks pt : Nat → Nat) (co sh : Nat → Nat → Nat) (vs : Nat → Int64) (hok : OkS n t cl qu en kp dl ou cp ks pt co sh) (hRC : RC ad cI cJ cD w n t cl qu en kp dl ou cp ks pt co sh vs) (r : Int32) (hr0 : ¬ r < 0) (hcl0 : cl = 0) : MH l yL_random (.codeWith yL_random cL_random 4 (some .int) [(0, 8, 11, 13), (0, 8, 14, 19)]) ({ frames := 10, cells := 1, slots := 6, locals := 370 }) [.ref (ad 0), .int r, .ref (ad 88)] D (tyL cI cJ cZ cD) ad 89 w sz sa (some (.int (nI 2))) (fun u => u = w) 1 6 := by
  refine MH.of (by decide) (Nat.le_of_ble_eq_true rfl) ?_
  intro p e s m below meth c ls hC hr hlocks htab hl hw hT
  obtain ⟨hx, hb, hml, hown, hts⟩ := id hC
  have hA : ∀ q, s.heap.size ≤ q → xA ad 89 s.heap.size q := fun q h => Or.inr h
  have hl : lv_has ls 4 [(0, .ref (ad 0)), (1, .int r), (2, .ref (ad 88))] := hl
  obtain ⟨⟨wh, h0, hwh⟩, -⟩ := id hRC
  refine lv_aload_n hx hb dL_random_0 rfl (lv_at hl 2 rfl) ?_
  refine lv_iconst (v := nI 0) hx hb dL_random_1 (by decide) ?_
  refine lv_aload_n hx hb dL_random_2 rfl (lv_at hl 0 rfl) ?_
  refine lv_iload_n hx hb dL_random_3 rfl (lv_at hl 1 rfl) ?_
  refine x_caught (As := [.int r]) (rest := [.int (nI 0), .ref (ad 88)]) hC vf_L_73 hw hA hT (by decide) h0 rfl rfl (c_randomC l hl0 n t cl qu en kp dl ou cp ks pt co sh vs hok hRC r hr0 hcl0) ⟨rfl, rfl, Nat.le_of_ble_eq_true rfl, Nat.le_of_ble_eq_true rfl⟩ hl.1 (Nat.le_of_ble_eq_true rfl) dL_random_4 ⟨Nat.le_of_ble_eq_true rfl, Nat.le_of_ble_eq_true rfl⟩ rfl (hpc := 14) (Or.inr ⟨⟨0, 8, 11, 13⟩, ⟨0, 8, 14, 19⟩, [], "java/lang/IllegalArgumentException", "java/lang/IllegalStateException", htab, by decide, by decide, (hts _ (List.mem_of_getElem? (i := 74) (by decide +kernel))), hT.2.1, by decide, by decide, (hts _ (List.mem_of_getElem? (i := 120) (by decide +kernel))), (hT.1.2.2.2.1 "java/lang/IllegalStateException" (by decide)), rfl⟩) (fun q9 H locs hw => ?_)
  refine lv_astore_n (lv' := [(3, .ref q9), (0, .ref (ad 0)), (1, .int r), (2, .ref (ad 88))]) hx hb dL_random_14 rfl hl (by decide) rfl (fun ls hl => ?_)
  refine lv_iconst (v := nI 2) hx hb dL_random_15 (by decide) ?_
  exact x_hret hx hb hr hlocks hw rfl dL_random_16
set_option maxHeartbeats 4000000 in
set_option maxRecDepth 100000 in
theorem h_randomA (l : Launch) (hl0 : l.stackTraces = false) {D : va_G} {cI cJ cZ cD : ClassId} {ad : Nat → Nat} {w : Nat → va_E} {sz : Nat} {sa : Nat → Nat} (n t cl qu en kp : Nat) (dl ou cp ks pt : Nat → Nat) (co sh : Nat → Nat → Nat) (vs : Nat → Int64) (hok : OkS n t cl qu en kp dl ou cp ks pt co sh) (hRC : RC ad cI cJ cD w n t cl qu en kp dl ou cp ks pt co sh vs) (r : Int32) (hr0 : ¬ r < 0) (hr1 : ¬ r ≤ nI en) (hcl0 : cl = 1) : MH l yL_random (.codeWith yL_random cL_random 4 (some .int) [(0, 8, 11, 13), (0, 8, 14, 19)]) ({ frames := 10, cells := 1, slots := 6, locals := 370 }) [.ref (ad 0), .int r, .ref (ad 88)] D (tyL cI cJ cZ cD) ad 89 w sz sa (some (.int (nI 1))) (fun u => u = w) 1 6 := by
  refine MH.of (by decide) (Nat.le_of_ble_eq_true rfl) ?_
  intro p e s m below meth c ls hC hr hlocks htab hl hw hT
  obtain ⟨hx, hb, hml, hown, hts⟩ := id hC
  have hA : ∀ q, s.heap.size ≤ q → xA ad 89 s.heap.size q := fun q h => Or.inr h
  have hl : lv_has ls 4 [(0, .ref (ad 0)), (1, .int r), (2, .ref (ad 88))] := hl
  obtain ⟨⟨wh, h0, hwh⟩, -⟩ := id hRC
  refine lv_aload_n hx hb dL_random_0 rfl (lv_at hl 2 rfl) ?_
  refine lv_iconst (v := nI 0) hx hb dL_random_1 (by decide) ?_
  refine lv_aload_n hx hb dL_random_2 rfl (lv_at hl 0 rfl) ?_
  refine lv_iload_n hx hb dL_random_3 rfl (lv_at hl 1 rfl) ?_
  refine x_caught (As := [.int r]) (rest := [.int (nI 0), .ref (ad 88)]) hC vf_L_73 hw hA hT (by decide) h0 rfl rfl (c_randomA l hl0 n t cl qu en kp dl ou cp ks pt co sh vs hok hRC r hr0 hr1 hcl0) ⟨rfl, rfl, Nat.le_of_ble_eq_true rfl, Nat.le_of_ble_eq_true rfl⟩ hl.1 (Nat.le_of_ble_eq_true rfl) dL_random_4 ⟨Nat.le_of_ble_eq_true rfl, Nat.le_of_ble_eq_true rfl⟩ rfl (hpc := 11) (Or.inl ⟨⟨0, 8, 11, 13⟩, [⟨0, 8, 14, 19⟩], "java/lang/IllegalArgumentException", htab, by decide, by decide, (hts _ (List.mem_of_getElem? (i := 74) (by decide +kernel))), (hT.1.2.2.2.1 "java/lang/IllegalArgumentException" (by decide)), rfl⟩) (fun q9 H locs hw => ?_)
  refine lv_astore_n (lv' := [(3, .ref q9), (0, .ref (ad 0)), (1, .int r), (2, .ref (ad 88))]) hx hb dL_random_11 rfl hl (by decide) rfl (fun ls hl => ?_)
  refine lv_iconst (v := nI 1) hx hb dL_random_12 (by decide) ?_
  exact x_hret hx hb hr hlocks hw rfl dL_random_13
set_option maxHeartbeats 4000000 in
set_option maxRecDepth 100000 in
theorem h_about0 (l : Launch) {D : va_G} {cI cJ cZ cD : ClassId} {ad : Nat → Nat} {w : Nat → va_E} {sz : Nat} {sa : Nat → Nat} (n t cl qu en kp : Nat) (dl ou cp ks pt : Nat → Nat) (co sh : Nat → Nat → Nat) (vs : Nat → Int64) (hok : OkS n t cl qu en kp dl ou cp ks pt co sh) (hRC : RC ad cI cJ cD w n t cl qu en kp dl ou cp ks pt co sh vs) (ofn : Nat → Int64) (hOut : w 88 = .inl (cJ, 1, .inr (.inl ofn))) : MH l yL_about (.codeWith yL_about cL_about 4 (some .int) [(0, 9, 12, 13)]) ({ frames := 10, cells := 0, slots := 0, locals := 370 }) [.ref (ad 0), .int (nI 0), .ref (ad 88)] D (tyL cI cJ cZ cD) ad 89 w sz sa (some (.int (nI 0))) (fun u => ((∀ z, 76 < z → z ≠ 88 → u z = w z) ∧ RC ad cI cJ cD u n t cl qu en kp dl ou cp ks pt co sh vs) ∧ u 88 = .inl (cJ, 1, .inr (.inl (vp_updL ofn 0 ((nI n).toInt64))))) 0 0 := by
  refine MH.of (by decide) (Nat.le_of_ble_eq_true rfl) ?_
  intro p e s m below meth c ls hC hr hlocks htab hl hw hT
  obtain ⟨hx, hb, hml, hown, hts⟩ := id hC
  have hA : ∀ q, s.heap.size ≤ q → xA ad 89 s.heap.size q := fun q h => Or.inr h
  have hl : lv_has ls 4 [(0, .ref (ad 0)), (1, .int (nI 0)), (2, .ref (ad 88))] := hl
  obtain ⟨⟨wh, h0, hwh⟩, -⟩ := id hRC
  refine lv_aload_n hx hb dL_about_0 rfl (lv_at hl 2 rfl) ?_
  refine lv_iconst (v := nI 0) hx hb dL_about_1 (by decide) ?_
  refine lv_aload_n hx hb dL_about_2 rfl (lv_at hl 0 rfl) ?_
  refine lv_iload_n hx hb dL_about_3 rfl (lv_at hl 1 rfl) ?_
  refine x_callW1 (As := [.int (nI 0)]) (rest := [.int (nI 0), .ref (ad 88)]) hC vf_L_76 hw hA (by decide) h0 rfl rfl (c_about0 l n t cl qu en kp dl ou cp ks pt co sh vs hok hRC) ⟨rfl, rfl, Nat.le_of_ble_eq_true rfl, Nat.le_of_ble_eq_true rfl⟩ hl.1 (Nat.le_of_ble_eq_true rfl) dL_about_4 ⟨Nat.zero_le _, Nat.zero_le _⟩ rfl (fun w_1 H locs hu9 hw => ?_)
  rw [hu9] at hw
  refine lv_i2l hx hb dL_about_7 rfl ?_
  refine x_last hx hb hw (by decide) 1 hOut rfl (j := 0) (by omega) (by decide) dL_about_8 (fun w_2 H locs ew_3 hw => ?_)
  have hc_4 : w_2 0 = .inr (3, [.ref (ad 1), .ref (ad 70), .ref (ad 71), .ref (ad 72), .ref (ad 76), .int (nI n), .int (nI t), .int (nI cl), .int (nI qu), .int wh]) := by rw [ew_3]; exact (va_up_ne _ _ (by omega)).trans h0
  have hc_5 : w_2 88 = .inl (cJ, 1, .inr (.inl (vp_updL ofn 0 ((nI n).toInt64)))) := by rw [ew_3]; exact va_up_self _ _ _
  refine lv_goto (tgt := 15) hx hb dL_about_9 (by decide) ?_
  refine lv_iconst (v := nI 0) hx hb dL_about_15 (by decide) ?_
  exact x_hret hx hb hr hlocks hw ⟨⟨fun z _ h2 => by rw [ew_3]; exact va_up_ne _ _ h2, RC.of hRC (fun z hz => by rw [ew_3]; exact va_up_ne _ _ (by omega))⟩, hc_5⟩ dL_about_16
set_option maxHeartbeats 4000000 in
set_option maxRecDepth 100000 in
theorem h_about1 (l : Launch) {D : va_G} {cI cJ cZ cD : ClassId} {ad : Nat → Nat} {w : Nat → va_E} {sz : Nat} {sa : Nat → Nat} (n t cl qu en kp : Nat) (dl ou cp ks pt : Nat → Nat) (co sh : Nat → Nat → Nat) (vs : Nat → Int64) (hok : OkS n t cl qu en kp dl ou cp ks pt co sh) (hRC : RC ad cI cJ cD w n t cl qu en kp dl ou cp ks pt co sh vs) (ofn : Nat → Int64) (hOut : w 88 = .inl (cJ, 1, .inr (.inl ofn))) : MH l yL_about (.codeWith yL_about cL_about 4 (some .int) [(0, 9, 12, 13)]) ({ frames := 10, cells := 0, slots := 0, locals := 370 }) [.ref (ad 0), .int (nI 1), .ref (ad 88)] D (tyL cI cJ cZ cD) ad 89 w sz sa (some (.int (nI 0))) (fun u => ((∀ z, 76 < z → z ≠ 88 → u z = w z) ∧ RC ad cI cJ cD u n t cl qu en kp dl ou cp ks pt co sh vs) ∧ u 88 = .inl (cJ, 1, .inr (.inl (vp_updL ofn 0 ((nI t).toInt64))))) 0 0 := by
  refine MH.of (by decide) (Nat.le_of_ble_eq_true rfl) ?_
  intro p e s m below meth c ls hC hr hlocks htab hl hw hT
  obtain ⟨hx, hb, hml, hown, hts⟩ := id hC
  have hA : ∀ q, s.heap.size ≤ q → xA ad 89 s.heap.size q := fun q h => Or.inr h
  have hl : lv_has ls 4 [(0, .ref (ad 0)), (1, .int (nI 1)), (2, .ref (ad 88))] := hl
  obtain ⟨⟨wh, h0, hwh⟩, -⟩ := id hRC
  refine lv_aload_n hx hb dL_about_0 rfl (lv_at hl 2 rfl) ?_
  refine lv_iconst (v := nI 0) hx hb dL_about_1 (by decide) ?_
  refine lv_aload_n hx hb dL_about_2 rfl (lv_at hl 0 rfl) ?_
  refine lv_iload_n hx hb dL_about_3 rfl (lv_at hl 1 rfl) ?_
  refine x_callW1 (As := [.int (nI 1)]) (rest := [.int (nI 0), .ref (ad 88)]) hC vf_L_76 hw hA (by decide) h0 rfl rfl (c_about1 l n t cl qu en kp dl ou cp ks pt co sh vs hok hRC) ⟨rfl, rfl, Nat.le_of_ble_eq_true rfl, Nat.le_of_ble_eq_true rfl⟩ hl.1 (Nat.le_of_ble_eq_true rfl) dL_about_4 ⟨Nat.zero_le _, Nat.zero_le _⟩ rfl (fun w_1 H locs hu9 hw => ?_)
  rw [hu9] at hw
  refine lv_i2l hx hb dL_about_7 rfl ?_
  refine x_last hx hb hw (by decide) 1 hOut rfl (j := 0) (by omega) (by decide) dL_about_8 (fun w_2 H locs ew_3 hw => ?_)
  have hc_4 : w_2 0 = .inr (3, [.ref (ad 1), .ref (ad 70), .ref (ad 71), .ref (ad 72), .ref (ad 76), .int (nI n), .int (nI t), .int (nI cl), .int (nI qu), .int wh]) := by rw [ew_3]; exact (va_up_ne _ _ (by omega)).trans h0
  have hc_5 : w_2 88 = .inl (cJ, 1, .inr (.inl (vp_updL ofn 0 ((nI t).toInt64)))) := by rw [ew_3]; exact va_up_self _ _ _
  refine lv_goto (tgt := 15) hx hb dL_about_9 (by decide) ?_
  refine lv_iconst (v := nI 0) hx hb dL_about_15 (by decide) ?_
  exact x_hret hx hb hr hlocks hw ⟨⟨fun z _ h2 => by rw [ew_3]; exact va_up_ne _ _ h2, RC.of hRC (fun z hz => by rw [ew_3]; exact va_up_ne _ _ (by omega))⟩, hc_5⟩ dL_about_16
set_option maxHeartbeats 4000000 in
set_option maxRecDepth 100000 in
theorem h_about2 (l : Launch) {D : va_G} {cI cJ cZ cD : ClassId} {ad : Nat → Nat} {w : Nat → va_E} {sz : Nat} {sa : Nat → Nat} (n t cl qu en kp : Nat) (dl ou cp ks pt : Nat → Nat) (co sh : Nat → Nat → Nat) (vs : Nat → Int64) (hok : OkS n t cl qu en kp dl ou cp ks pt co sh) (hRC : RC ad cI cJ cD w n t cl qu en kp dl ou cp ks pt co sh vs) (ofn : Nat → Int64) (hOut : w 88 = .inl (cJ, 1, .inr (.inl ofn))) : MH l yL_about (.codeWith yL_about cL_about 4 (some .int) [(0, 9, 12, 13)]) ({ frames := 10, cells := 0, slots := 0, locals := 370 }) [.ref (ad 0), .int (nI 2), .ref (ad 88)] D (tyL cI cJ cZ cD) ad 89 w sz sa (some (.int (nI 0))) (fun u => ((∀ z, 76 < z → z ≠ 88 → u z = w z) ∧ RC ad cI cJ cD u n t cl qu en kp dl ou cp ks pt co sh vs) ∧ u 88 = .inl (cJ, 1, .inr (.inl (vp_updL ofn 0 ((nI (cnt dl n)).toInt64))))) 0 0 := by
  refine MH.of (by decide) (Nat.le_of_ble_eq_true rfl) ?_
  intro p e s m below meth c ls hC hr hlocks htab hl hw hT
  obtain ⟨hx, hb, hml, hown, hts⟩ := id hC
  have hA : ∀ q, s.heap.size ≤ q → xA ad 89 s.heap.size q := fun q h => Or.inr h
  have hl : lv_has ls 4 [(0, .ref (ad 0)), (1, .int (nI 2)), (2, .ref (ad 88))] := hl
  obtain ⟨⟨wh, h0, hwh⟩, -⟩ := id hRC
  refine lv_aload_n hx hb dL_about_0 rfl (lv_at hl 2 rfl) ?_
  refine lv_iconst (v := nI 0) hx hb dL_about_1 (by decide) ?_
  refine lv_aload_n hx hb dL_about_2 rfl (lv_at hl 0 rfl) ?_
  refine lv_iload_n hx hb dL_about_3 rfl (lv_at hl 1 rfl) ?_
  refine x_callW1 (As := [.int (nI 2)]) (rest := [.int (nI 0), .ref (ad 88)]) hC vf_L_76 hw hA (by decide) h0 rfl rfl (c_about2 l n t cl qu en kp dl ou cp ks pt co sh vs hok hRC) ⟨rfl, rfl, Nat.le_of_ble_eq_true rfl, Nat.le_of_ble_eq_true rfl⟩ hl.1 (Nat.le_of_ble_eq_true rfl) dL_about_4 ⟨Nat.zero_le _, Nat.zero_le _⟩ rfl (fun w_1 H locs hu9 hw => ?_)
  rw [hu9] at hw
  refine lv_i2l hx hb dL_about_7 rfl ?_
  refine x_last hx hb hw (by decide) 1 hOut rfl (j := 0) (by omega) (by decide) dL_about_8 (fun w_2 H locs ew_3 hw => ?_)
  have hc_4 : w_2 0 = .inr (3, [.ref (ad 1), .ref (ad 70), .ref (ad 71), .ref (ad 72), .ref (ad 76), .int (nI n), .int (nI t), .int (nI cl), .int (nI qu), .int wh]) := by rw [ew_3]; exact (va_up_ne _ _ (by omega)).trans h0
  have hc_5 : w_2 88 = .inl (cJ, 1, .inr (.inl (vp_updL ofn 0 ((nI (cnt dl n)).toInt64)))) := by rw [ew_3]; exact va_up_self _ _ _
  refine lv_goto (tgt := 15) hx hb dL_about_9 (by decide) ?_
  refine lv_iconst (v := nI 0) hx hb dL_about_15 (by decide) ?_
  exact x_hret hx hb hr hlocks hw ⟨⟨fun z _ h2 => by rw [ew_3]; exact va_up_ne _ _ h2, RC.of hRC (fun z hz => by rw [ew_3]; exact va_up_ne _ _ (by omega))⟩, hc_5⟩ dL_about_16
set_option maxHeartbeats 4000000 in
set_option maxRecDepth 100000 in
theorem h_about3 (l : Launch) {D : va_G} {cI cJ cZ cD : ClassId} {ad : Nat → Nat} {w : Nat → va_E} {sz : Nat} {sa : Nat → Nat} (n t cl qu en kp : Nat) (dl ou cp ks pt : Nat → Nat) (co sh : Nat → Nat → Nat) (vs : Nat → Int64) (hok : OkS n t cl qu en kp dl ou cp ks pt co sh) (hRC : RC ad cI cJ cD w n t cl qu en kp dl ou cp ks pt co sh vs) (ofn : Nat → Int64) (hOut : w 88 = .inl (cJ, 1, .inr (.inl ofn))) : MH l yL_about (.codeWith yL_about cL_about 4 (some .int) [(0, 9, 12, 13)]) ({ frames := 10, cells := 0, slots := 0, locals := 370 }) [.ref (ad 0), .int (nI 3), .ref (ad 88)] D (tyL cI cJ cZ cD) ad 89 w sz sa (some (.int (nI 0))) (fun u => ((∀ z, 76 < z → z ≠ 88 → u z = w z) ∧ RC ad cI cJ cD u n t cl qu en kp dl ou cp ks pt co sh vs) ∧ u 88 = .inl (cJ, 1, .inr (.inl (vp_updL ofn 0 ((nI (cnt (fun i => pcN (cp i)) n)).toInt64))))) 0 0 := by
  refine MH.of (by decide) (Nat.le_of_ble_eq_true rfl) ?_
  intro p e s m below meth c ls hC hr hlocks htab hl hw hT
  obtain ⟨hx, hb, hml, hown, hts⟩ := id hC
  have hA : ∀ q, s.heap.size ≤ q → xA ad 89 s.heap.size q := fun q h => Or.inr h
  have hl : lv_has ls 4 [(0, .ref (ad 0)), (1, .int (nI 3)), (2, .ref (ad 88))] := hl
  obtain ⟨⟨wh, h0, hwh⟩, -⟩ := id hRC
  refine lv_aload_n hx hb dL_about_0 rfl (lv_at hl 2 rfl) ?_
  refine lv_iconst (v := nI 0) hx hb dL_about_1 (by decide) ?_
  refine lv_aload_n hx hb dL_about_2 rfl (lv_at hl 0 rfl) ?_
  refine lv_iload_n hx hb dL_about_3 rfl (lv_at hl 1 rfl) ?_
  refine x_callW1 (As := [.int (nI 3)]) (rest := [.int (nI 0), .ref (ad 88)]) hC vf_L_76 hw hA (by decide) h0 rfl rfl (c_about3 l n t cl qu en kp dl ou cp ks pt co sh vs hok hRC) ⟨rfl, rfl, Nat.le_of_ble_eq_true rfl, Nat.le_of_ble_eq_true rfl⟩ hl.1 (Nat.le_of_ble_eq_true rfl) dL_about_4 ⟨Nat.zero_le _, Nat.zero_le _⟩ rfl (fun w_1 H locs hu9 hw => ?_)
  rw [hu9] at hw
  refine lv_i2l hx hb dL_about_7 rfl ?_
  refine x_last hx hb hw (by decide) 1 hOut rfl (j := 0) (by omega) (by decide) dL_about_8 (fun w_2 H locs ew_3 hw => ?_)
  have hc_4 : w_2 0 = .inr (3, [.ref (ad 1), .ref (ad 70), .ref (ad 71), .ref (ad 72), .ref (ad 76), .int (nI n), .int (nI t), .int (nI cl), .int (nI qu), .int wh]) := by rw [ew_3]; exact (va_up_ne _ _ (by omega)).trans h0
  have hc_5 : w_2 88 = .inl (cJ, 1, .inr (.inl (vp_updL ofn 0 ((nI (cnt (fun i => pcN (cp i)) n)).toInt64)))) := by rw [ew_3]; exact va_up_self _ _ _
  refine lv_goto (tgt := 15) hx hb dL_about_9 (by decide) ?_
  refine lv_iconst (v := nI 0) hx hb dL_about_15 (by decide) ?_
  exact x_hret hx hb hr hlocks hw ⟨⟨fun z _ h2 => by rw [ew_3]; exact va_up_ne _ _ h2, RC.of hRC (fun z hz => by rw [ew_3]; exact va_up_ne _ _ (by omega))⟩, hc_5⟩ dL_about_16
set_option maxHeartbeats 4000000 in
set_option maxRecDepth 100000 in
theorem h_about4 (l : Launch) {D : va_G} {cI cJ cZ cD : ClassId} {ad : Nat → Nat} {w : Nat → va_E} {sz : Nat} {sa : Nat → Nat} (n t cl qu en kp : Nat) (dl ou cp ks pt : Nat → Nat) (co sh : Nat → Nat → Nat) (vs : Nat → Int64) (hok : OkS n t cl qu en kp dl ou cp ks pt co sh) (hRC : RC ad cI cJ cD w n t cl qu en kp dl ou cp ks pt co sh vs) (ofn : Nat → Int64) (hOut : w 88 = .inl (cJ, 1, .inr (.inl ofn))) : MH l yL_about (.codeWith yL_about cL_about 4 (some .int) [(0, 9, 12, 13)]) ({ frames := 10, cells := 0, slots := 0, locals := 370 }) [.ref (ad 0), .int (nI 4), .ref (ad 88)] D (tyL cI cJ cZ cD) ad 89 w sz sa (some (.int (nI 0))) (fun u => ((∀ z, 76 < z → z ≠ 88 → u z = w z) ∧ RC ad cI cJ cD u n t cl qu en kp dl ou cp ks pt co sh vs) ∧ u 88 = .inl (cJ, 1, .inr (.inl (vp_updL ofn 0 ((nI (cnt ou n)).toInt64))))) 0 0 := by
  refine MH.of (by decide) (Nat.le_of_ble_eq_true rfl) ?_
  intro p e s m below meth c ls hC hr hlocks htab hl hw hT
  obtain ⟨hx, hb, hml, hown, hts⟩ := id hC
  have hA : ∀ q, s.heap.size ≤ q → xA ad 89 s.heap.size q := fun q h => Or.inr h
  have hl : lv_has ls 4 [(0, .ref (ad 0)), (1, .int (nI 4)), (2, .ref (ad 88))] := hl
  obtain ⟨⟨wh, h0, hwh⟩, -⟩ := id hRC
  refine lv_aload_n hx hb dL_about_0 rfl (lv_at hl 2 rfl) ?_
  refine lv_iconst (v := nI 0) hx hb dL_about_1 (by decide) ?_
  refine lv_aload_n hx hb dL_about_2 rfl (lv_at hl 0 rfl) ?_
  refine lv_iload_n hx hb dL_about_3 rfl (lv_at hl 1 rfl) ?_
  refine x_callW1 (As := [.int (nI 4)]) (rest := [.int (nI 0), .ref (ad 88)]) hC vf_L_76 hw hA (by decide) h0 rfl rfl (c_about4 l n t cl qu en kp dl ou cp ks pt co sh vs hok hRC) ⟨rfl, rfl, Nat.le_of_ble_eq_true rfl, Nat.le_of_ble_eq_true rfl⟩ hl.1 (Nat.le_of_ble_eq_true rfl) dL_about_4 ⟨Nat.zero_le _, Nat.zero_le _⟩ rfl (fun w_1 H locs hu9 hw => ?_)
  rw [hu9] at hw
  refine lv_i2l hx hb dL_about_7 rfl ?_
  refine x_last hx hb hw (by decide) 1 hOut rfl (j := 0) (by omega) (by decide) dL_about_8 (fun w_2 H locs ew_3 hw => ?_)
  have hc_4 : w_2 0 = .inr (3, [.ref (ad 1), .ref (ad 70), .ref (ad 71), .ref (ad 72), .ref (ad 76), .int (nI n), .int (nI t), .int (nI cl), .int (nI qu), .int wh]) := by rw [ew_3]; exact (va_up_ne _ _ (by omega)).trans h0
  have hc_5 : w_2 88 = .inl (cJ, 1, .inr (.inl (vp_updL ofn 0 ((nI (cnt ou n)).toInt64)))) := by rw [ew_3]; exact va_up_self _ _ _
  refine lv_goto (tgt := 15) hx hb dL_about_9 (by decide) ?_
  refine lv_iconst (v := nI 0) hx hb dL_about_15 (by decide) ?_
  exact x_hret hx hb hr hlocks hw ⟨⟨fun z _ h2 => by rw [ew_3]; exact va_up_ne _ _ h2, RC.of hRC (fun z hz => by rw [ew_3]; exact va_up_ne _ _ (by omega))⟩, hc_5⟩ dL_about_16
set_option maxHeartbeats 4000000 in
set_option maxRecDepth 100000 in
theorem h_about5 (l : Launch) {D : va_G} {cI cJ cZ cD : ClassId} {ad : Nat → Nat} {w : Nat → va_E} {sz : Nat} {sa : Nat → Nat} (n t cl qu en kp : Nat) (dl ou cp ks pt : Nat → Nat) (co sh : Nat → Nat → Nat) (vs : Nat → Int64) (hok : OkS n t cl qu en kp dl ou cp ks pt co sh) (hRC : RC ad cI cJ cD w n t cl qu en kp dl ou cp ks pt co sh vs) (ofn : Nat → Int64) (hOut : w 88 = .inl (cJ, 1, .inr (.inl ofn))) : MH l yL_about (.codeWith yL_about cL_about 4 (some .int) [(0, 9, 12, 13)]) ({ frames := 10, cells := 0, slots := 0, locals := 370 }) [.ref (ad 0), .int (nI 5), .ref (ad 88)] D (tyL cI cJ cZ cD) ad 89 w sz sa (some (.int (nI 0))) (fun u => ((∀ z, 76 < z → z ≠ 88 → u z = w z) ∧ RC ad cI cJ cD u n t cl qu en kp dl ou cp ks pt co sh vs) ∧ u 88 = .inl (cJ, 1, .inr (.inl (vp_updL ofn 0 ((nI (pcN qu)).toInt64))))) 0 0 := by
  refine MH.of (by decide) (Nat.le_of_ble_eq_true rfl) ?_
  intro p e s m below meth c ls hC hr hlocks htab hl hw hT
  obtain ⟨hx, hb, hml, hown, hts⟩ := id hC
  have hA : ∀ q, s.heap.size ≤ q → xA ad 89 s.heap.size q := fun q h => Or.inr h
  have hl : lv_has ls 4 [(0, .ref (ad 0)), (1, .int (nI 5)), (2, .ref (ad 88))] := hl
  obtain ⟨⟨wh, h0, hwh⟩, -⟩ := id hRC
  refine lv_aload_n hx hb dL_about_0 rfl (lv_at hl 2 rfl) ?_
  refine lv_iconst (v := nI 0) hx hb dL_about_1 (by decide) ?_
  refine lv_aload_n hx hb dL_about_2 rfl (lv_at hl 0 rfl) ?_
  refine lv_iload_n hx hb dL_about_3 rfl (lv_at hl 1 rfl) ?_
  refine x_callW1 (As := [.int (nI 5)]) (rest := [.int (nI 0), .ref (ad 88)]) hC vf_L_76 hw hA (by decide) h0 rfl rfl (c_about5 l n t cl qu en kp dl ou cp ks pt co sh vs hok hRC) ⟨rfl, rfl, Nat.le_of_ble_eq_true rfl, Nat.le_of_ble_eq_true rfl⟩ hl.1 (Nat.le_of_ble_eq_true rfl) dL_about_4 ⟨Nat.zero_le _, Nat.zero_le _⟩ rfl (fun w_1 H locs hu9 hw => ?_)
  rw [hu9] at hw
  refine lv_i2l hx hb dL_about_7 rfl ?_
  refine x_last hx hb hw (by decide) 1 hOut rfl (j := 0) (by omega) (by decide) dL_about_8 (fun w_2 H locs ew_3 hw => ?_)
  have hc_4 : w_2 0 = .inr (3, [.ref (ad 1), .ref (ad 70), .ref (ad 71), .ref (ad 72), .ref (ad 76), .int (nI n), .int (nI t), .int (nI cl), .int (nI qu), .int wh]) := by rw [ew_3]; exact (va_up_ne _ _ (by omega)).trans h0
  have hc_5 : w_2 88 = .inl (cJ, 1, .inr (.inl (vp_updL ofn 0 ((nI (pcN qu)).toInt64)))) := by rw [ew_3]; exact va_up_self _ _ _
  refine lv_goto (tgt := 15) hx hb dL_about_9 (by decide) ?_
  refine lv_iconst (v := nI 0) hx hb dL_about_15 (by decide) ?_
  exact x_hret hx hb hr hlocks hw ⟨⟨fun z _ h2 => by rw [ew_3]; exact va_up_ne _ _ h2, RC.of hRC (fun z hz => by rw [ew_3]; exact va_up_ne _ _ (by omega))⟩, hc_5⟩ dL_about_16
set_option maxHeartbeats 4000000 in
set_option maxRecDepth 100000 in
theorem h_about6 (l : Launch) {D : va_G} {cI cJ cZ cD : ClassId} {ad : Nat → Nat} {w : Nat → va_E} {sz : Nat} {sa : Nat → Nat} (n t cl qu en kp : Nat) (dl ou cp ks pt : Nat → Nat) (co sh : Nat → Nat → Nat) (vs : Nat → Int64) (hok : OkS n t cl qu en kp dl ou cp ks pt co sh) (hRC : RC ad cI cJ cD w n t cl qu en kp dl ou cp ks pt co sh vs) (ofn : Nat → Int64) (hOut : w 88 = .inl (cJ, 1, .inr (.inl ofn))) : MH l yL_about (.codeWith yL_about cL_about 4 (some .int) [(0, 9, 12, 13)]) ({ frames := 10, cells := 0, slots := 0, locals := 370 }) [.ref (ad 0), .int (nI 6), .ref (ad 88)] D (tyL cI cJ cZ cD) ad 89 w sz sa (some (.int (nI 0))) (fun u => ((∀ z, 76 < z → z ≠ 88 → u z = w z) ∧ RC ad cI cJ cD u n t cl qu en kp dl ou cp ks pt co sh vs) ∧ u 88 = .inl (cJ, 1, .inr (.inl (vp_updL ofn 0 ((nI qu).toInt64))))) 0 0 := by
  refine MH.of (by decide) (Nat.le_of_ble_eq_true rfl) ?_
  intro p e s m below meth c ls hC hr hlocks htab hl hw hT
  obtain ⟨hx, hb, hml, hown, hts⟩ := id hC
  have hA : ∀ q, s.heap.size ≤ q → xA ad 89 s.heap.size q := fun q h => Or.inr h
  have hl : lv_has ls 4 [(0, .ref (ad 0)), (1, .int (nI 6)), (2, .ref (ad 88))] := hl
  obtain ⟨⟨wh, h0, hwh⟩, -⟩ := id hRC
  refine lv_aload_n hx hb dL_about_0 rfl (lv_at hl 2 rfl) ?_
  refine lv_iconst (v := nI 0) hx hb dL_about_1 (by decide) ?_
  refine lv_aload_n hx hb dL_about_2 rfl (lv_at hl 0 rfl) ?_
  refine lv_iload_n hx hb dL_about_3 rfl (lv_at hl 1 rfl) ?_
  refine x_callW1 (As := [.int (nI 6)]) (rest := [.int (nI 0), .ref (ad 88)]) hC vf_L_76 hw hA (by decide) h0 rfl rfl (c_about6 l n t cl qu en kp dl ou cp ks pt co sh vs hok hRC) ⟨rfl, rfl, Nat.le_of_ble_eq_true rfl, Nat.le_of_ble_eq_true rfl⟩ hl.1 (Nat.le_of_ble_eq_true rfl) dL_about_4 ⟨Nat.zero_le _, Nat.zero_le _⟩ rfl (fun w_1 H locs hu9 hw => ?_)
  rw [hu9] at hw
  refine lv_i2l hx hb dL_about_7 rfl ?_
  refine x_last hx hb hw (by decide) 1 hOut rfl (j := 0) (by omega) (by decide) dL_about_8 (fun w_2 H locs ew_3 hw => ?_)
  have hc_4 : w_2 0 = .inr (3, [.ref (ad 1), .ref (ad 70), .ref (ad 71), .ref (ad 72), .ref (ad 76), .int (nI n), .int (nI t), .int (nI cl), .int (nI qu), .int wh]) := by rw [ew_3]; exact (va_up_ne _ _ (by omega)).trans h0
  have hc_5 : w_2 88 = .inl (cJ, 1, .inr (.inl (vp_updL ofn 0 ((nI qu).toInt64)))) := by rw [ew_3]; exact va_up_self _ _ _
  refine lv_goto (tgt := 15) hx hb dL_about_9 (by decide) ?_
  refine lv_iconst (v := nI 0) hx hb dL_about_15 (by decide) ?_
  exact x_hret hx hb hr hlocks hw ⟨⟨fun z _ h2 => by rw [ew_3]; exact va_up_ne _ _ h2, RC.of hRC (fun z hz => by rw [ew_3]; exact va_up_ne _ _ (by omega))⟩, hc_5⟩ dL_about_16
set_option maxHeartbeats 4000000 in
set_option maxRecDepth 100000 in
theorem h_about7 (l : Launch) {D : va_G} {cI cJ cZ cD : ClassId} {ad : Nat → Nat} {w : Nat → va_E} {sz : Nat} {sa : Nat → Nat} (n t cl qu en kp : Nat) (dl ou cp ks pt : Nat → Nat) (co sh : Nat → Nat → Nat) (vs : Nat → Int64) (hok : OkS n t cl qu en kp dl ou cp ks pt co sh) (hRC : RC ad cI cJ cD w n t cl qu en kp dl ou cp ks pt co sh vs) (ofn : Nat → Int64) (hOut : w 88 = .inl (cJ, 1, .inr (.inl ofn))) : MH l yL_about (.codeWith yL_about cL_about 4 (some .int) [(0, 9, 12, 13)]) ({ frames := 10, cells := 0, slots := 0, locals := 370 }) [.ref (ad 0), .int (nI 7), .ref (ad 88)] D (tyL cI cJ cZ cD) ad 89 w sz sa (some (.int (nI 0))) (fun u => ((∀ z, 76 < z → z ≠ 88 → u z = w z) ∧ RC ad cI cJ cD u n t cl qu en kp dl ou cp ks pt co sh vs) ∧ u 88 = .inl (cJ, 1, .inr (.inl (vp_updL ofn 0 ((nI en).toInt64))))) 0 0 := by
  refine MH.of (by decide) (Nat.le_of_ble_eq_true rfl) ?_
  intro p e s m below meth c ls hC hr hlocks htab hl hw hT
  obtain ⟨hx, hb, hml, hown, hts⟩ := id hC
  have hA : ∀ q, s.heap.size ≤ q → xA ad 89 s.heap.size q := fun q h => Or.inr h
  have hl : lv_has ls 4 [(0, .ref (ad 0)), (1, .int (nI 7)), (2, .ref (ad 88))] := hl
  obtain ⟨⟨wh, h0, hwh⟩, -⟩ := id hRC
  refine lv_aload_n hx hb dL_about_0 rfl (lv_at hl 2 rfl) ?_
  refine lv_iconst (v := nI 0) hx hb dL_about_1 (by decide) ?_
  refine lv_aload_n hx hb dL_about_2 rfl (lv_at hl 0 rfl) ?_
  refine lv_iload_n hx hb dL_about_3 rfl (lv_at hl 1 rfl) ?_
  refine x_callW1 (As := [.int (nI 7)]) (rest := [.int (nI 0), .ref (ad 88)]) hC vf_L_76 hw hA (by decide) h0 rfl rfl (c_about7 l n t cl qu en kp dl ou cp ks pt co sh vs hok hRC) ⟨rfl, rfl, Nat.le_of_ble_eq_true rfl, Nat.le_of_ble_eq_true rfl⟩ hl.1 (Nat.le_of_ble_eq_true rfl) dL_about_4 ⟨Nat.zero_le _, Nat.zero_le _⟩ rfl (fun w_1 H locs hu9 hw => ?_)
  rw [hu9] at hw
  refine lv_i2l hx hb dL_about_7 rfl ?_
  refine x_last hx hb hw (by decide) 1 hOut rfl (j := 0) (by omega) (by decide) dL_about_8 (fun w_2 H locs ew_3 hw => ?_)
  have hc_4 : w_2 0 = .inr (3, [.ref (ad 1), .ref (ad 70), .ref (ad 71), .ref (ad 72), .ref (ad 76), .int (nI n), .int (nI t), .int (nI cl), .int (nI qu), .int wh]) := by rw [ew_3]; exact (va_up_ne _ _ (by omega)).trans h0
  have hc_5 : w_2 88 = .inl (cJ, 1, .inr (.inl (vp_updL ofn 0 ((nI en).toInt64)))) := by rw [ew_3]; exact va_up_self _ _ _
  refine lv_goto (tgt := 15) hx hb dL_about_9 (by decide) ?_
  refine lv_iconst (v := nI 0) hx hb dL_about_15 (by decide) ?_
  exact x_hret hx hb hr hlocks hw ⟨⟨fun z _ h2 => by rw [ew_3]; exact va_up_ne _ _ h2, RC.of hRC (fun z hz => by rw [ew_3]; exact va_up_ne _ _ (by omega))⟩, hc_5⟩ dL_about_16
set_option maxHeartbeats 4000000 in
set_option maxRecDepth 100000 in
theorem h_aboutA (l : Launch) (hl0 : l.stackTraces = false) {D : va_G} {cI cJ cZ cD : ClassId} {ad : Nat → Nat} {w : Nat → va_E} {sz : Nat} {sa : Nat → Nat} (n t cl qu en kp : Nat) (dl ou cp ks pt : Nat → Nat) (co sh : Nat → Nat → Nat) (vs : Nat → Int64) (hok : OkS n t cl qu en kp dl ou cp ks pt co sh) (hRC : RC ad cI cJ cD w n t cl qu en kp dl ou cp ks pt co sh vs) (x : Int32) (hbad : x < 0 ∨ ¬ x ≤ nI 7) : MH l yL_about (.codeWith yL_about cL_about 4 (some .int) [(0, 9, 12, 13)]) ({ frames := 10, cells := 1, slots := 6, locals := 370 }) [.ref (ad 0), .int x, .ref (ad 88)] D (tyL cI cJ cZ cD) ad 89 w sz sa (some (.int (nI 1))) (fun u => u = w) 1 6 := by
  refine MH.of (by decide) (Nat.le_of_ble_eq_true rfl) ?_
  intro p e s m below meth c ls hC hr hlocks htab hl hw hT
  obtain ⟨hx, hb, hml, hown, hts⟩ := id hC
  have hA : ∀ q, s.heap.size ≤ q → xA ad 89 s.heap.size q := fun q h => Or.inr h
  have hl : lv_has ls 4 [(0, .ref (ad 0)), (1, .int x), (2, .ref (ad 88))] := hl
  obtain ⟨⟨wh, h0, hwh⟩, -⟩ := id hRC
  refine lv_aload_n hx hb dL_about_0 rfl (lv_at hl 2 rfl) ?_
  refine lv_iconst (v := nI 0) hx hb dL_about_1 (by decide) ?_
  refine lv_aload_n hx hb dL_about_2 rfl (lv_at hl 0 rfl) ?_
  refine lv_iload_n hx hb dL_about_3 rfl (lv_at hl 1 rfl) ?_
  refine x_caught (As := [.int x]) (rest := [.int (nI 0), .ref (ad 88)]) hC vf_L_76 hw hA hT (by decide) h0 rfl rfl (c_aboutA l hl0 n t cl qu en kp dl ou cp ks pt co sh vs hok hRC x hbad) ⟨rfl, rfl, Nat.le_of_ble_eq_true rfl, Nat.le_of_ble_eq_true rfl⟩ hl.1 (Nat.le_of_ble_eq_true rfl) dL_about_4 ⟨Nat.le_of_ble_eq_true rfl, Nat.le_of_ble_eq_true rfl⟩ rfl (hpc := 12) (Or.inl ⟨⟨0, 9, 12, 13⟩, [], "java/lang/IllegalArgumentException", htab, by decide, by decide, (hts _ (List.mem_of_getElem? (i := 74) (by decide +kernel))), (hT.1.2.2.2.1 "java/lang/IllegalArgumentException" (by decide)), rfl⟩) (fun q9 H locs hw => ?_)
  refine lv_astore_n (lv' := [(3, .ref q9), (0, .ref (ad 0)), (1, .int x), (2, .ref (ad 88))]) hx hb dL_about_12 rfl hl (by decide) rfl (fun ls hl => ?_)
  refine lv_iconst (v := nI 1) hx hb dL_about_13 (by decide) ?_
  exact x_hret hx hb hr hlocks hw rfl dL_about_14

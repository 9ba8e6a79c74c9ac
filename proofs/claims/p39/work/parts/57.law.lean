/-! ===== law ===== -/
theorem m_449 : Cond.methodLink RL 13 yX11_go ∈ tb := mb_2_2 _ (List.mem_of_getElem? (i := 7) rfl)
theorem m_450 : Cond.instanceMethod yX11_go ∈ tb := mb_2_2 _ (List.mem_of_getElem? (i := 8) rfl)
theorem m_451 : Cond.selects RX11 yX11_go yX11_go ∈ tb := mb_2_2 _ (List.mem_of_getElem? (i := 9) rfl)
theorem m_452 : Cond.code yX11_go cX11_go 2 (some .int) ∈ tb := mb_2_2 _ (List.mem_of_getElem? (i := 10) rfl)
theorem m_458 : Cond.methodLink RL 18 yX11_bale ∈ tb := mb_2_2 _ (List.mem_of_getElem? (i := 16) rfl)
theorem m_459 : Cond.instanceMethod yX11_bale ∈ tb := mb_2_2 _ (List.mem_of_getElem? (i := 17) rfl)
theorem m_460 : Cond.selects RX11 yX11_bale yX11_bale ∈ tb := mb_2_2 _ (List.mem_of_getElem? (i := 18) rfl)
theorem m_461 : Cond.code yX11_bale cX11_bale 2 (some .int) ∈ tb := mb_2_2 _ (List.mem_of_getElem? (i := 19) rfl)
theorem m_468 : Cond.methodLink RL 22 yX11_skein ∈ tb := mb_2_3 _ (List.mem_of_getElem? (i := 2) rfl)
theorem m_469 : Cond.instanceMethod yX11_skein ∈ tb := mb_2_3 _ (List.mem_of_getElem? (i := 3) rfl)
theorem m_470 : Cond.selects RX11 yX11_skein yX11_skein ∈ tb := mb_2_3 _ (List.mem_of_getElem? (i := 4) rfl)
theorem m_471 : Cond.code yX11_skein cX11_skein 9 (some .int) ∈ tb := mb_2_3 _ (List.mem_of_getElem? (i := 5) rfl)
theorem m_505 : Cond.methodLink RL 27 yX11_lose ∈ tb := mb_2_4 _ (List.mem_of_getElem? (i := 14) rfl)
theorem m_506 : Cond.instanceMethod yX11_lose ∈ tb := mb_2_4 _ (List.mem_of_getElem? (i := 15) rfl)
theorem m_507 : Cond.selects RX11 yX11_lose yX11_lose ∈ tb := mb_2_4 _ (List.mem_of_getElem? (i := 16) rfl)
theorem m_508 : Cond.code yX11_lose cX11_lose 2 (some .int) ∈ tb := mb_2_4 _ (List.mem_of_getElem? (i := 17) rfl)
theorem m_518 : Cond.methodLink RL 31 yX11_told ∈ tb := mb_2_5 _ (List.mem_of_getElem? (i := 3) rfl)
theorem m_519 : Cond.instanceMethod yX11_told ∈ tb := mb_2_5 _ (List.mem_of_getElem? (i := 4) rfl)
theorem m_520 : Cond.selects RX11 yX11_told yX11_told ∈ tb := mb_2_5 _ (List.mem_of_getElem? (i := 5) rfl)
theorem m_521 : Cond.code yX11_told cX11_told 3 (some .int) ∈ tb := mb_2_5 _ (List.mem_of_getElem? (i := 6) rfl)
theorem m_1365 : Cond.methodLink RL 17 yX12_go ∈ tb := mb_6_0 _ (List.mem_of_getElem? (i := 0) rfl)
theorem m_1366 : Cond.instanceMethod yX12_go ∈ tb := mb_6_0 _ (List.mem_of_getElem? (i := 1) rfl)
theorem m_1367 : Cond.selects RX12 yX12_go yX12_go ∈ tb := mb_6_0 _ (List.mem_of_getElem? (i := 2) rfl)
theorem m_1368 : Cond.code yX12_go cX12_go 2 (some .int) ∈ tb := mb_6_0 _ (List.mem_of_getElem? (i := 3) rfl)
theorem m_1375 : Cond.methodLink RL 21 yX12_bale ∈ tb := mb_6_0 _ (List.mem_of_getElem? (i := 10) rfl)
theorem m_1376 : Cond.instanceMethod yX12_bale ∈ tb := mb_6_0 _ (List.mem_of_getElem? (i := 11) rfl)
theorem m_1377 : Cond.selects RX12 yX12_bale yX12_bale ∈ tb := mb_6_0 _ (List.mem_of_getElem? (i := 12) rfl)
theorem m_1378 : Cond.code yX12_bale cX12_bale 2 (some .int) ∈ tb := mb_6_0 _ (List.mem_of_getElem? (i := 13) rfl)
theorem m_1381 : Cond.methodLink RL 26 yX12_skein ∈ tb := mb_6_0 _ (List.mem_of_getElem? (i := 16) rfl)
theorem m_1382 : Cond.instanceMethod yX12_skein ∈ tb := mb_6_0 _ (List.mem_of_getElem? (i := 17) rfl)
theorem m_1383 : Cond.selects RX12 yX12_skein yX12_skein ∈ tb := mb_6_0 _ (List.mem_of_getElem? (i := 18) rfl)
theorem m_1384 : Cond.code yX12_skein cX12_skein 10 (some .int) ∈ tb := mb_6_0 _ (List.mem_of_getElem? (i := 19) rfl)
theorem m_1399 : Cond.methodLink RL 30 yX12_lose ∈ tb := mb_6_1 _ (List.mem_of_getElem? (i := 9) rfl)
theorem m_1400 : Cond.instanceMethod yX12_lose ∈ tb := mb_6_1 _ (List.mem_of_getElem? (i := 10) rfl)
theorem m_1401 : Cond.selects RX12 yX12_lose yX12_lose ∈ tb := mb_6_1 _ (List.mem_of_getElem? (i := 11) rfl)
theorem m_1402 : Cond.code yX12_lose cX12_lose 2 (some .int) ∈ tb := mb_6_1 _ (List.mem_of_getElem? (i := 12) rfl)
theorem m_1407 : Cond.methodLink RL 35 yX12_told ∈ tb := mb_6_1 _ (List.mem_of_getElem? (i := 16) rfl)
theorem m_1408 : Cond.instanceMethod yX12_told ∈ tb := mb_6_1 _ (List.mem_of_getElem? (i := 17) rfl)
theorem m_1409 : Cond.selects RX12 yX12_told yX12_told ∈ tb := mb_6_1 _ (List.mem_of_getElem? (i := 18) rfl)
theorem m_1410 : Cond.code yX12_told cX12_told 3 (some .int) ∈ tb := mb_6_1 _ (List.mem_of_getElem? (i := 19) rfl)
theorem hd_X11_bale_v : yX11_bale.cls = RX11 ∧ yX11_bale.cls ≠ "java/lang/invoke/MethodHandle" ∧ yX11_bale.cls ≠ "java/lang/invoke/VarHandle" ∧ (parseMethodDescriptor yX11_bale.desc).map (fun d => d.parameters.length) = some 1 := by decide +kernel
theorem hd_X11_go_v : yX11_go.cls = RX11 ∧ yX11_go.cls ≠ "java/lang/invoke/MethodHandle" ∧ yX11_go.cls ≠ "java/lang/invoke/VarHandle" ∧ (parseMethodDescriptor yX11_go.desc).map (fun d => d.parameters.length) = some 1 := by decide +kernel
theorem hd_X11_lose_v : yX11_lose.cls = RX11 ∧ yX11_lose.cls ≠ "java/lang/invoke/MethodHandle" ∧ yX11_lose.cls ≠ "java/lang/invoke/VarHandle" ∧ (parseMethodDescriptor yX11_lose.desc).map (fun d => d.parameters.length) = some 1 := by decide +kernel
theorem hd_X11_skein_v : yX11_skein.cls = RX11 ∧ yX11_skein.cls ≠ "java/lang/invoke/MethodHandle" ∧ yX11_skein.cls ≠ "java/lang/invoke/VarHandle" ∧ (parseMethodDescriptor yX11_skein.desc).map (fun d => d.parameters.length) = some 7 := by decide +kernel
theorem hd_X11_told_v : yX11_told.cls = RX11 ∧ yX11_told.cls ≠ "java/lang/invoke/MethodHandle" ∧ yX11_told.cls ≠ "java/lang/invoke/VarHandle" ∧ (parseMethodDescriptor yX11_told.desc).map (fun d => d.parameters.length) = some 2 := by decide +kernel
theorem hd_X12_bale_v : yX12_bale.cls = RX12 ∧ yX12_bale.cls ≠ "java/lang/invoke/MethodHandle" ∧ yX12_bale.cls ≠ "java/lang/invoke/VarHandle" ∧ (parseMethodDescriptor yX12_bale.desc).map (fun d => d.parameters.length) = some 1 := by decide +kernel
theorem hd_X12_go_v : yX12_go.cls = RX12 ∧ yX12_go.cls ≠ "java/lang/invoke/MethodHandle" ∧ yX12_go.cls ≠ "java/lang/invoke/VarHandle" ∧ (parseMethodDescriptor yX12_go.desc).map (fun d => d.parameters.length) = some 1 := by decide +kernel
theorem hd_X12_lose_v : yX12_lose.cls = RX12 ∧ yX12_lose.cls ≠ "java/lang/invoke/MethodHandle" ∧ yX12_lose.cls ≠ "java/lang/invoke/VarHandle" ∧ (parseMethodDescriptor yX12_lose.desc).map (fun d => d.parameters.length) = some 1 := by decide +kernel
theorem hd_X12_skein_v : yX12_skein.cls = RX12 ∧ yX12_skein.cls ≠ "java/lang/invoke/MethodHandle" ∧ yX12_skein.cls ≠ "java/lang/invoke/VarHandle" ∧ (parseMethodDescriptor yX12_skein.desc).map (fun d => d.parameters.length) = some 7 := by decide +kernel
theorem hd_X12_told_v : yX12_told.cls = RX12 ∧ yX12_told.cls ≠ "java/lang/invoke/MethodHandle" ∧ yX12_told.cls ≠ "java/lang/invoke/VarHandle" ∧ (parseMethodDescriptor yX12_told.desc).map (fun d => d.parameters.length) = some 2 := by decide +kernel
/-- a byte read -/
def B1 (c : ByteArray) (p n : Nat) : Prop := (Reader.u1 : Reader DecodeError Nat) c p = Except.ok (n, p + 1)
theorem B1_of {c : ByteArray} {p : Nat} {b : UInt8} (h : c.data.toList[p]? = some b) : B1 c p b.toNat := by
  obtain ⟨hp, hb⟩ := List.getElem?_eq_some_iff.mp h
  obtain ⟨bs⟩ := c
  have hs : p < bs.size := by rw [← Array.length_toList]; exact hp
  have e : bs[p] = b := by rw [← hb]; exact (Array.getElem_toList hs).symm
  unfold B1
  show (dite (p < bs.size) _ _ : Reader DecodeError Nat) ⟨bs⟩ p = _
  rw [dif_pos hs]
  show Except.ok (bs[p].toNat, p + 1) = _
  rw [e]
/-- the bytes from a place on -/
def Win (c : ByteArray) (o : Nat) (w : List UInt8) : Prop := ∀ (j : Nat) (b : UInt8), w[j]? = some b → c.data.toList[o + j]? = some b
theorem Win_of {c : ByteArray} {o n : Nat} {w : List UInt8} (h : (c.data.toList.drop o).take n = w) : Win c o w := by
  intro j b hj
  rw [← h, List.getElem?_take] at hj
  split at hj
  · rw [List.getElem?_drop] at hj; exact hj
  · cases hj
theorem Win_sub {c : ByteArray} {o o2 n : Nat} {w v : List UInt8} (hW : Win c o w) (h : (w.drop o2).take n = v) : Win c (o + o2) v := by
  intro j b hj
  rw [← h, List.getElem?_take] at hj
  split at hj
  · rw [List.getElem?_drop] at hj
    rw [Nat.add_assoc]; exact hW _ b hj
  · cases hj
theorem w_at {c : ByteArray} {o : Nat} {w : List UInt8} (h : Win c o w) (j : Nat) {b : UInt8} {p m : Nat} (hp : o + j = p) (hj : w[j]? = some b) (hm : b.toNat = m) : B1 c p m := by
  subst hp
  subst hm
  exact B1_of (h j b hj)
theorem B2_of {c : ByteArray} {p a b : Nat} (h1 : B1 c p a) (h2 : B1 c (p + 1) b) : (Reader.u2 : Reader DecodeError Nat) c p = Except.ok (a * 256 + b, p + 2) := by
  show Except.bind ((Reader.u1 : Reader DecodeError Nat) c p) _ = _
  unfold B1 at h1 h2
  rw [h1]
  show Except.bind ((Reader.u1 : Reader DecodeError Nat) c (p + 1)) _ = _
  rw [h2]; rfl
theorem dk_iv {c : ByteArray} {p a b i : Nat} (h : B1 c p 182) (h1 : B1 c (p + 1) a) (h2 : B1 c (p + 2) b) (hi : a * 256 + b = i) : decode c p = .ok (.invokevirtual i, 3) := by
  subst hi
  show Except.bind (Except.bind ((Reader.u1 : Reader DecodeError Nat) c p) _) _ = _
  unfold B1 at h
  rw [h]
  show Except.bind (Except.bind ((Reader.u2 : Reader DecodeError Nat) c (p + 1)) _) _ = _
  rw [B2_of h1 h2]
  show Except.ok (Instr.invokevirtual (a * 256 + b), p + 3 - p) = _
  rw [Nat.add_sub_cancel_left]
def bL_0 : List UInt8 := [187, 0, 7, 89, 183, 0, 9, 76, 187, 0, 10, 89, 183, 0, 12, 77, 3, 62, 29, 42, 190, 16, 8, 100, 163, 5, 211, 42, 29, 46, 16, 63, 126, 170, 0, 0, 0, 0, 5, 196, 0, 0, 0, 0, 0, 0, 0, 37, 0, 0, 0, 167, 0, 0, 0, 190, 0, 0, 0, 213, 0, 0, 1, 44, 0, 0, 1, 67, 0, 0, 1, 100, 0, 0, 1, 143, 0, 0, 1, 186, 0, 0, 1, 229, 0, 0, 1, 252, 0, 0, 2, 59, 0, 0, 2, 82, 0, 0, 2, 95, 0, 0, 2, 128, 0, 0, 2, 161, 0, 0, 2, 194, 0, 0, 2, 237, 0, 0, 3, 14, 0, 0, 3, 47, 0, 0, 3, 80, 0, 0, 3, 113, 0, 0, 3, 146, 0, 0, 3, 179, 0, 0, 3, 212, 0, 0, 3, 245, 0, 0, 4, 12, 0, 0, 4, 65, 0, 0, 4, 118, 0, 0, 4, 141, 0, 0, 4, 174, 0, 0, 4, 187, 0, 0, 4, 240, 0, 0, 5, 7, 0, 0, 5, 30, 0, 0, 5, 63, 0, 0, 5, 106, 0, 0, 5, 129, 0, 0, 5, 162, 43, 42, 29, 4, 96, 46, 182, 0, 13, 87, 44, 42, 29, 4, 96, 46, 182, 0, 17, 87, 167, 5, 9, 43, 42, 29, 4, 96, 46, 182, 0, 18, 87, 44, 42, 29, 4, 96, 46, 182, 0, 21, 87, 167, 4, 242, 43, 42, 29, 4, 96, 46, 42, 29, 5, 96, 46, 42, 29, 6, 96, 46, 42, 29, 7, 96, 46, 42]
set_option maxRecDepth 100000 in
theorem WL_0 : Win cL_law 0 bL_0 := Win_of (n := 268) (by decide +kernel)
set_option maxRecDepth 100000 in
theorem wL_8 : Win cL_law 192 [0, 0, 5, 129, 0, 0, 5, 162, 43, 42, 29, 4, 96, 46, 182, 0, 13, 87, 44, 42, 29, 4, 96, 46, 182, 0, 17, 87] := Win_sub (o := 0) (o2 := 192) (n := 28) WL_0 (by decide +kernel)
theorem dk_43 {c : ByteArray} {p : Nat} (h : B1 c p 43) : decode c p = .ok (.aload_n 1, 1) := by
  show Except.bind (Except.bind ((Reader.u1 : Reader DecodeError Nat) c p) _) _ = _
  unfold B1 at h
  rw [h]
  show Except.ok ((.aload_n 1 : Instr), p + 1 - p) = _
  rw [Nat.add_sub_cancel_left]
theorem dL_law_200 : decode cL_law 200 = .ok (.aload_n 1, 1) := dk_43 (w_at wL_8 8 (p := 200) rfl rfl rfl)
theorem dk_42 {c : ByteArray} {p : Nat} (h : B1 c p 42) : decode c p = .ok (.aload_n 0, 1) := by
  show Except.bind (Except.bind ((Reader.u1 : Reader DecodeError Nat) c p) _) _ = _
  unfold B1 at h
  rw [h]
  show Except.ok ((.aload_n 0 : Instr), p + 1 - p) = _
  rw [Nat.add_sub_cancel_left]
theorem dL_law_201 : decode cL_law 201 = .ok (.aload_n 0, 1) := dk_42 (w_at wL_8 9 (p := 201) rfl rfl rfl)
theorem dk_29 {c : ByteArray} {p : Nat} (h : B1 c p 29) : decode c p = .ok (.iload_n 3, 1) := by
  show Except.bind (Except.bind ((Reader.u1 : Reader DecodeError Nat) c p) _) _ = _
  unfold B1 at h
  rw [h]
  show Except.ok ((.iload_n 3 : Instr), p + 1 - p) = _
  rw [Nat.add_sub_cancel_left]
theorem dL_law_202 : decode cL_law 202 = .ok (.iload_n 3, 1) := dk_29 (w_at wL_8 10 (p := 202) rfl rfl rfl)
theorem dk_4 {c : ByteArray} {p : Nat} (h : B1 c p 4) : decode c p = .ok (.iconst 1, 1) := by
  show Except.bind (Except.bind ((Reader.u1 : Reader DecodeError Nat) c p) _) _ = _
  unfold B1 at h
  rw [h]
  show Except.ok ((.iconst 1 : Instr), p + 1 - p) = _
  rw [Nat.add_sub_cancel_left]
theorem dL_law_203 : decode cL_law 203 = .ok (.iconst 1, 1) := dk_4 (w_at wL_8 11 (p := 203) rfl rfl rfl)
theorem dk_96 {c : ByteArray} {p : Nat} (h : B1 c p 96) : decode c p = .ok (.iadd, 1) := by
  show Except.bind (Except.bind ((Reader.u1 : Reader DecodeError Nat) c p) _) _ = _
  unfold B1 at h
  rw [h]
  show Except.ok ((.iadd : Instr), p + 1 - p) = _
  rw [Nat.add_sub_cancel_left]
theorem dL_law_204 : decode cL_law 204 = .ok (.iadd, 1) := dk_96 (w_at wL_8 12 (p := 204) rfl rfl rfl)
theorem dk_46 {c : ByteArray} {p : Nat} (h : B1 c p 46) : decode c p = .ok (.iaload, 1) := by
  show Except.bind (Except.bind ((Reader.u1 : Reader DecodeError Nat) c p) _) _ = _
  unfold B1 at h
  rw [h]
  show Except.ok ((.iaload : Instr), p + 1 - p) = _
  rw [Nat.add_sub_cancel_left]
theorem dL_law_205 : decode cL_law 205 = .ok (.iaload, 1) := dk_46 (w_at wL_8 13 (p := 205) rfl rfl rfl)
theorem dL_law_206 : decode cL_law 206 = .ok (.invokevirtual 13, 3) := dk_iv (w_at wL_8 14 (p := 206) rfl rfl rfl) (w_at wL_8 15 (p := 207) rfl rfl rfl) (w_at wL_8 16 (p := 208) rfl rfl rfl) rfl
theorem dk_87 {c : ByteArray} {p : Nat} (h : B1 c p 87) : decode c p = .ok (.pop, 1) := by
  show Except.bind (Except.bind ((Reader.u1 : Reader DecodeError Nat) c p) _) _ = _
  unfold B1 at h
  rw [h]
  show Except.ok ((.pop : Instr), p + 1 - p) = _
  rw [Nat.add_sub_cancel_left]
theorem dL_law_209 : decode cL_law 209 = .ok (.pop, 1) := dk_87 (w_at wL_8 17 (p := 209) rfl rfl rfl)
theorem dk_44 {c : ByteArray} {p : Nat} (h : B1 c p 44) : decode c p = .ok (.aload_n 2, 1) := by
  show Except.bind (Except.bind ((Reader.u1 : Reader DecodeError Nat) c p) _) _ = _
  unfold B1 at h
  rw [h]
  show Except.ok ((.aload_n 2 : Instr), p + 1 - p) = _
  rw [Nat.add_sub_cancel_left]
theorem dL_law_210 : decode cL_law 210 = .ok (.aload_n 2, 1) := dk_44 (w_at wL_8 18 (p := 210) rfl rfl rfl)
theorem dL_law_211 : decode cL_law 211 = .ok (.aload_n 0, 1) := dk_42 (w_at wL_8 19 (p := 211) rfl rfl rfl)
theorem dL_law_212 : decode cL_law 212 = .ok (.iload_n 3, 1) := dk_29 (w_at wL_8 20 (p := 212) rfl rfl rfl)
theorem dL_law_213 : decode cL_law 213 = .ok (.iconst 1, 1) := dk_4 (w_at wL_8 21 (p := 213) rfl rfl rfl)
theorem dL_law_214 : decode cL_law 214 = .ok (.iadd, 1) := dk_96 (w_at wL_8 22 (p := 214) rfl rfl rfl)
theorem dL_law_215 : decode cL_law 215 = .ok (.iaload, 1) := dk_46 (w_at wL_8 23 (p := 215) rfl rfl rfl)
set_option maxRecDepth 100000 in
theorem wL_9 : Win cL_law 216 [182, 0, 17, 87, 167, 5, 9, 43, 42, 29, 4, 96, 46, 182, 0, 18, 87, 44, 42, 29, 4, 96, 46, 182, 0, 21, 87, 167] := Win_sub (o := 0) (o2 := 216) (n := 28) WL_0 (by decide +kernel)
theorem dL_law_216 : decode cL_law 216 = .ok (.invokevirtual 17, 3) := dk_iv (w_at wL_9 0 (p := 216) rfl rfl rfl) (w_at wL_9 1 (p := 217) rfl rfl rfl) (w_at wL_9 2 (p := 218) rfl rfl rfl) rfl
theorem dL_law_219 : decode cL_law 219 = .ok (.pop, 1) := dk_87 (w_at wL_9 3 (p := 219) rfl rfl rfl)
theorem dL_law_223 : decode cL_law 223 = .ok (.aload_n 1, 1) := dk_43 (w_at wL_9 7 (p := 223) rfl rfl rfl)
theorem dL_law_224 : decode cL_law 224 = .ok (.aload_n 0, 1) := dk_42 (w_at wL_9 8 (p := 224) rfl rfl rfl)
theorem dL_law_225 : decode cL_law 225 = .ok (.iload_n 3, 1) := dk_29 (w_at wL_9 9 (p := 225) rfl rfl rfl)
theorem dL_law_226 : decode cL_law 226 = .ok (.iconst 1, 1) := dk_4 (w_at wL_9 10 (p := 226) rfl rfl rfl)
theorem dL_law_227 : decode cL_law 227 = .ok (.iadd, 1) := dk_96 (w_at wL_9 11 (p := 227) rfl rfl rfl)
theorem dL_law_228 : decode cL_law 228 = .ok (.iaload, 1) := dk_46 (w_at wL_9 12 (p := 228) rfl rfl rfl)
theorem dL_law_229 : decode cL_law 229 = .ok (.invokevirtual 18, 3) := dk_iv (w_at wL_9 13 (p := 229) rfl rfl rfl) (w_at wL_9 14 (p := 230) rfl rfl rfl) (w_at wL_9 15 (p := 231) rfl rfl rfl) rfl
theorem dL_law_232 : decode cL_law 232 = .ok (.pop, 1) := dk_87 (w_at wL_9 16 (p := 232) rfl rfl rfl)
theorem dL_law_233 : decode cL_law 233 = .ok (.aload_n 2, 1) := dk_44 (w_at wL_9 17 (p := 233) rfl rfl rfl)
theorem dL_law_234 : decode cL_law 234 = .ok (.aload_n 0, 1) := dk_42 (w_at wL_9 18 (p := 234) rfl rfl rfl)
theorem dL_law_235 : decode cL_law 235 = .ok (.iload_n 3, 1) := dk_29 (w_at wL_9 19 (p := 235) rfl rfl rfl)
theorem dL_law_236 : decode cL_law 236 = .ok (.iconst 1, 1) := dk_4 (w_at wL_9 20 (p := 236) rfl rfl rfl)
theorem dL_law_237 : decode cL_law 237 = .ok (.iadd, 1) := dk_96 (w_at wL_9 21 (p := 237) rfl rfl rfl)
theorem dL_law_238 : decode cL_law 238 = .ok (.iaload, 1) := dk_46 (w_at wL_9 22 (p := 238) rfl rfl rfl)
theorem dL_law_239 : decode cL_law 239 = .ok (.invokevirtual 21, 3) := dk_iv (w_at wL_9 23 (p := 239) rfl rfl rfl) (w_at wL_9 24 (p := 240) rfl rfl rfl) (w_at wL_9 25 (p := 241) rfl rfl rfl) rfl
def bL_1 : List UInt8 := [0, 21, 87, 167, 4, 242, 43, 42, 29, 4, 96, 46, 42, 29, 5, 96, 46, 42, 29, 6, 96, 46, 42, 29, 7, 96, 46, 42, 29, 8, 96, 46, 42, 29, 16, 6, 96, 46, 42, 29, 16, 7, 96, 46, 182, 0, 22, 87, 44, 42, 29, 4, 96, 46, 42, 29, 5, 96, 46, 42, 29, 6, 96, 46, 42, 29, 7, 96, 46, 42, 29, 8, 96, 46, 42, 29, 16, 6, 96, 46, 42, 29, 16, 7, 96, 46, 182, 0, 26, 87, 167, 4, 155, 43, 42, 29, 4, 96, 46, 182, 0, 27, 87, 44, 42, 29, 4, 96, 46, 182, 0, 30, 87, 167, 4, 132, 43, 42, 29, 4, 96, 46, 42, 29, 5, 96, 46, 182, 0, 31, 87, 44, 42, 29, 4, 96, 46, 42, 29, 5, 96, 46, 182, 0, 35, 87, 167, 4, 99, 43, 42, 29, 4, 96, 46, 42, 29, 5, 96, 46, 42, 29, 6, 96, 46, 182, 0, 36, 87, 44, 42, 29, 4, 96, 46, 42, 29, 5, 96, 46, 42, 29, 6, 96, 46, 182, 0, 40, 87, 167, 4, 56, 43, 42, 29, 4, 96, 46, 42, 29, 5, 96, 46, 42, 29, 6, 96, 46, 182, 0, 41, 87, 44, 42, 29, 4, 96, 46, 42, 29, 5, 96, 46, 42, 29, 6, 96, 46, 182, 0, 44, 87, 167, 4, 13, 43, 42, 29, 4, 96, 46, 42, 29, 5, 96, 46, 42, 29, 6, 96, 46, 182, 0, 45, 87, 44, 42, 29, 4, 96, 46, 42, 29, 5, 96, 46, 42, 29]
set_option maxRecDepth 100000 in
theorem WL_1 : Win cL_law 240 bL_1 := Win_of (n := 268) (by decide +kernel)
set_option maxRecDepth 100000 in
theorem wL_10 : Win cL_law 240 [0, 21, 87, 167, 4, 242, 43, 42, 29, 4, 96, 46, 42, 29, 5, 96, 46, 42, 29, 6, 96, 46, 42, 29, 7, 96, 46, 42] := Win_sub (o := 240) (o2 := 0) (n := 28) WL_1 (by decide +kernel)
theorem dL_law_242 : decode cL_law 242 = .ok (.pop, 1) := dk_87 (w_at wL_10 2 (p := 242) rfl rfl rfl)
theorem dL_law_246 : decode cL_law 246 = .ok (.aload_n 1, 1) := dk_43 (w_at wL_10 6 (p := 246) rfl rfl rfl)
theorem dL_law_247 : decode cL_law 247 = .ok (.aload_n 0, 1) := dk_42 (w_at wL_10 7 (p := 247) rfl rfl rfl)
theorem dL_law_248 : decode cL_law 248 = .ok (.iload_n 3, 1) := dk_29 (w_at wL_10 8 (p := 248) rfl rfl rfl)
theorem dL_law_249 : decode cL_law 249 = .ok (.iconst 1, 1) := dk_4 (w_at wL_10 9 (p := 249) rfl rfl rfl)
theorem dL_law_250 : decode cL_law 250 = .ok (.iadd, 1) := dk_96 (w_at wL_10 10 (p := 250) rfl rfl rfl)
theorem dL_law_251 : decode cL_law 251 = .ok (.iaload, 1) := dk_46 (w_at wL_10 11 (p := 251) rfl rfl rfl)
theorem dL_law_252 : decode cL_law 252 = .ok (.aload_n 0, 1) := dk_42 (w_at wL_10 12 (p := 252) rfl rfl rfl)
theorem dL_law_253 : decode cL_law 253 = .ok (.iload_n 3, 1) := dk_29 (w_at wL_10 13 (p := 253) rfl rfl rfl)
theorem dk_5 {c : ByteArray} {p : Nat} (h : B1 c p 5) : decode c p = .ok (.iconst 2, 1) := by
  show Except.bind (Except.bind ((Reader.u1 : Reader DecodeError Nat) c p) _) _ = _
  unfold B1 at h
  rw [h]
  show Except.ok ((.iconst 2 : Instr), p + 1 - p) = _
  rw [Nat.add_sub_cancel_left]
theorem dL_law_254 : decode cL_law 254 = .ok (.iconst 2, 1) := dk_5 (w_at wL_10 14 (p := 254) rfl rfl rfl)
theorem dL_law_255 : decode cL_law 255 = .ok (.iadd, 1) := dk_96 (w_at wL_10 15 (p := 255) rfl rfl rfl)
theorem dL_law_256 : decode cL_law 256 = .ok (.iaload, 1) := dk_46 (w_at wL_10 16 (p := 256) rfl rfl rfl)
theorem dL_law_257 : decode cL_law 257 = .ok (.aload_n 0, 1) := dk_42 (w_at wL_10 17 (p := 257) rfl rfl rfl)
theorem dL_law_258 : decode cL_law 258 = .ok (.iload_n 3, 1) := dk_29 (w_at wL_10 18 (p := 258) rfl rfl rfl)
theorem dk_6 {c : ByteArray} {p : Nat} (h : B1 c p 6) : decode c p = .ok (.iconst 3, 1) := by
  show Except.bind (Except.bind ((Reader.u1 : Reader DecodeError Nat) c p) _) _ = _
  unfold B1 at h
  rw [h]
  show Except.ok ((.iconst 3 : Instr), p + 1 - p) = _
  rw [Nat.add_sub_cancel_left]
theorem dL_law_259 : decode cL_law 259 = .ok (.iconst 3, 1) := dk_6 (w_at wL_10 19 (p := 259) rfl rfl rfl)
theorem dL_law_260 : decode cL_law 260 = .ok (.iadd, 1) := dk_96 (w_at wL_10 20 (p := 260) rfl rfl rfl)
theorem dL_law_261 : decode cL_law 261 = .ok (.iaload, 1) := dk_46 (w_at wL_10 21 (p := 261) rfl rfl rfl)
theorem dL_law_262 : decode cL_law 262 = .ok (.aload_n 0, 1) := dk_42 (w_at wL_10 22 (p := 262) rfl rfl rfl)
theorem dL_law_263 : decode cL_law 263 = .ok (.iload_n 3, 1) := dk_29 (w_at wL_10 23 (p := 263) rfl rfl rfl)
set_option maxRecDepth 100000 in
theorem wL_11 : Win cL_law 264 [7, 96, 46, 42, 29, 8, 96, 46, 42, 29, 16, 6, 96, 46, 42, 29, 16, 7, 96, 46, 182, 0, 22, 87, 44, 42, 29, 4] := Win_sub (o := 240) (o2 := 24) (n := 28) WL_1 (by decide +kernel)
theorem dk_7 {c : ByteArray} {p : Nat} (h : B1 c p 7) : decode c p = .ok (.iconst 4, 1) := by
  show Except.bind (Except.bind ((Reader.u1 : Reader DecodeError Nat) c p) _) _ = _
  unfold B1 at h
  rw [h]
  show Except.ok ((.iconst 4 : Instr), p + 1 - p) = _
  rw [Nat.add_sub_cancel_left]
theorem dL_law_264 : decode cL_law 264 = .ok (.iconst 4, 1) := dk_7 (w_at wL_11 0 (p := 264) rfl rfl rfl)
theorem dL_law_265 : decode cL_law 265 = .ok (.iadd, 1) := dk_96 (w_at wL_11 1 (p := 265) rfl rfl rfl)
theorem dL_law_266 : decode cL_law 266 = .ok (.iaload, 1) := dk_46 (w_at wL_11 2 (p := 266) rfl rfl rfl)
theorem dL_law_267 : decode cL_law 267 = .ok (.aload_n 0, 1) := dk_42 (w_at wL_11 3 (p := 267) rfl rfl rfl)
theorem dL_law_268 : decode cL_law 268 = .ok (.iload_n 3, 1) := dk_29 (w_at wL_11 4 (p := 268) rfl rfl rfl)
theorem dk_8 {c : ByteArray} {p : Nat} (h : B1 c p 8) : decode c p = .ok (.iconst 5, 1) := by
  show Except.bind (Except.bind ((Reader.u1 : Reader DecodeError Nat) c p) _) _ = _
  unfold B1 at h
  rw [h]
  show Except.ok ((.iconst 5 : Instr), p + 1 - p) = _
  rw [Nat.add_sub_cancel_left]
theorem dL_law_269 : decode cL_law 269 = .ok (.iconst 5, 1) := dk_8 (w_at wL_11 5 (p := 269) rfl rfl rfl)
theorem dL_law_270 : decode cL_law 270 = .ok (.iadd, 1) := dk_96 (w_at wL_11 6 (p := 270) rfl rfl rfl)
theorem dL_law_271 : decode cL_law 271 = .ok (.iaload, 1) := dk_46 (w_at wL_11 7 (p := 271) rfl rfl rfl)
theorem dL_law_272 : decode cL_law 272 = .ok (.aload_n 0, 1) := dk_42 (w_at wL_11 8 (p := 272) rfl rfl rfl)
theorem dL_law_273 : decode cL_law 273 = .ok (.iload_n 3, 1) := dk_29 (w_at wL_11 9 (p := 273) rfl rfl rfl)
theorem dL_law_276 : decode cL_law 276 = .ok (.iadd, 1) := dk_96 (w_at wL_11 12 (p := 276) rfl rfl rfl)
theorem dL_law_277 : decode cL_law 277 = .ok (.iaload, 1) := dk_46 (w_at wL_11 13 (p := 277) rfl rfl rfl)
theorem dL_law_278 : decode cL_law 278 = .ok (.aload_n 0, 1) := dk_42 (w_at wL_11 14 (p := 278) rfl rfl rfl)
theorem dL_law_279 : decode cL_law 279 = .ok (.iload_n 3, 1) := dk_29 (w_at wL_11 15 (p := 279) rfl rfl rfl)
theorem dL_law_282 : decode cL_law 282 = .ok (.iadd, 1) := dk_96 (w_at wL_11 18 (p := 282) rfl rfl rfl)
theorem dL_law_283 : decode cL_law 283 = .ok (.iaload, 1) := dk_46 (w_at wL_11 19 (p := 283) rfl rfl rfl)
theorem dL_law_284 : decode cL_law 284 = .ok (.invokevirtual 22, 3) := dk_iv (w_at wL_11 20 (p := 284) rfl rfl rfl) (w_at wL_11 21 (p := 285) rfl rfl rfl) (w_at wL_11 22 (p := 286) rfl rfl rfl) rfl
theorem dL_law_287 : decode cL_law 287 = .ok (.pop, 1) := dk_87 (w_at wL_11 23 (p := 287) rfl rfl rfl)
set_option maxRecDepth 100000 in
theorem wL_12 : Win cL_law 288 [44, 42, 29, 4, 96, 46, 42, 29, 5, 96, 46, 42, 29, 6, 96, 46, 42, 29, 7, 96, 46, 42, 29, 8, 96, 46, 42, 29] := Win_sub (o := 240) (o2 := 48) (n := 28) WL_1 (by decide +kernel)
theorem dL_law_288 : decode cL_law 288 = .ok (.aload_n 2, 1) := dk_44 (w_at wL_12 0 (p := 288) rfl rfl rfl)
theorem dL_law_289 : decode cL_law 289 = .ok (.aload_n 0, 1) := dk_42 (w_at wL_12 1 (p := 289) rfl rfl rfl)
theorem dL_law_290 : decode cL_law 290 = .ok (.iload_n 3, 1) := dk_29 (w_at wL_12 2 (p := 290) rfl rfl rfl)
theorem dL_law_291 : decode cL_law 291 = .ok (.iconst 1, 1) := dk_4 (w_at wL_12 3 (p := 291) rfl rfl rfl)
theorem dL_law_292 : decode cL_law 292 = .ok (.iadd, 1) := dk_96 (w_at wL_12 4 (p := 292) rfl rfl rfl)
theorem dL_law_293 : decode cL_law 293 = .ok (.iaload, 1) := dk_46 (w_at wL_12 5 (p := 293) rfl rfl rfl)
theorem dL_law_294 : decode cL_law 294 = .ok (.aload_n 0, 1) := dk_42 (w_at wL_12 6 (p := 294) rfl rfl rfl)
theorem dL_law_295 : decode cL_law 295 = .ok (.iload_n 3, 1) := dk_29 (w_at wL_12 7 (p := 295) rfl rfl rfl)
theorem dL_law_296 : decode cL_law 296 = .ok (.iconst 2, 1) := dk_5 (w_at wL_12 8 (p := 296) rfl rfl rfl)
theorem dL_law_297 : decode cL_law 297 = .ok (.iadd, 1) := dk_96 (w_at wL_12 9 (p := 297) rfl rfl rfl)
theorem dL_law_298 : decode cL_law 298 = .ok (.iaload, 1) := dk_46 (w_at wL_12 10 (p := 298) rfl rfl rfl)
theorem dL_law_299 : decode cL_law 299 = .ok (.aload_n 0, 1) := dk_42 (w_at wL_12 11 (p := 299) rfl rfl rfl)
theorem dL_law_300 : decode cL_law 300 = .ok (.iload_n 3, 1) := dk_29 (w_at wL_12 12 (p := 300) rfl rfl rfl)
theorem dL_law_301 : decode cL_law 301 = .ok (.iconst 3, 1) := dk_6 (w_at wL_12 13 (p := 301) rfl rfl rfl)
theorem dL_law_302 : decode cL_law 302 = .ok (.iadd, 1) := dk_96 (w_at wL_12 14 (p := 302) rfl rfl rfl)
theorem dL_law_303 : decode cL_law 303 = .ok (.iaload, 1) := dk_46 (w_at wL_12 15 (p := 303) rfl rfl rfl)
theorem dL_law_304 : decode cL_law 304 = .ok (.aload_n 0, 1) := dk_42 (w_at wL_12 16 (p := 304) rfl rfl rfl)
theorem dL_law_305 : decode cL_law 305 = .ok (.iload_n 3, 1) := dk_29 (w_at wL_12 17 (p := 305) rfl rfl rfl)
theorem dL_law_306 : decode cL_law 306 = .ok (.iconst 4, 1) := dk_7 (w_at wL_12 18 (p := 306) rfl rfl rfl)
theorem dL_law_307 : decode cL_law 307 = .ok (.iadd, 1) := dk_96 (w_at wL_12 19 (p := 307) rfl rfl rfl)
theorem dL_law_308 : decode cL_law 308 = .ok (.iaload, 1) := dk_46 (w_at wL_12 20 (p := 308) rfl rfl rfl)
theorem dL_law_309 : decode cL_law 309 = .ok (.aload_n 0, 1) := dk_42 (w_at wL_12 21 (p := 309) rfl rfl rfl)
theorem dL_law_310 : decode cL_law 310 = .ok (.iload_n 3, 1) := dk_29 (w_at wL_12 22 (p := 310) rfl rfl rfl)
theorem dL_law_311 : decode cL_law 311 = .ok (.iconst 5, 1) := dk_8 (w_at wL_12 23 (p := 311) rfl rfl rfl)
set_option maxRecDepth 100000 in
theorem wL_13 : Win cL_law 312 [96, 46, 42, 29, 16, 6, 96, 46, 42, 29, 16, 7, 96, 46, 182, 0, 26, 87, 167, 4, 155, 43, 42, 29, 4, 96, 46, 182] := Win_sub (o := 240) (o2 := 72) (n := 28) WL_1 (by decide +kernel)
theorem dL_law_312 : decode cL_law 312 = .ok (.iadd, 1) := dk_96 (w_at wL_13 0 (p := 312) rfl rfl rfl)
theorem dL_law_313 : decode cL_law 313 = .ok (.iaload, 1) := dk_46 (w_at wL_13 1 (p := 313) rfl rfl rfl)
theorem dL_law_314 : decode cL_law 314 = .ok (.aload_n 0, 1) := dk_42 (w_at wL_13 2 (p := 314) rfl rfl rfl)
theorem dL_law_315 : decode cL_law 315 = .ok (.iload_n 3, 1) := dk_29 (w_at wL_13 3 (p := 315) rfl rfl rfl)
theorem dL_law_318 : decode cL_law 318 = .ok (.iadd, 1) := dk_96 (w_at wL_13 6 (p := 318) rfl rfl rfl)
theorem dL_law_319 : decode cL_law 319 = .ok (.iaload, 1) := dk_46 (w_at wL_13 7 (p := 319) rfl rfl rfl)
theorem dL_law_320 : decode cL_law 320 = .ok (.aload_n 0, 1) := dk_42 (w_at wL_13 8 (p := 320) rfl rfl rfl)
theorem dL_law_321 : decode cL_law 321 = .ok (.iload_n 3, 1) := dk_29 (w_at wL_13 9 (p := 321) rfl rfl rfl)
theorem dL_law_324 : decode cL_law 324 = .ok (.iadd, 1) := dk_96 (w_at wL_13 12 (p := 324) rfl rfl rfl)
theorem dL_law_325 : decode cL_law 325 = .ok (.iaload, 1) := dk_46 (w_at wL_13 13 (p := 325) rfl rfl rfl)
theorem dL_law_326 : decode cL_law 326 = .ok (.invokevirtual 26, 3) := dk_iv (w_at wL_13 14 (p := 326) rfl rfl rfl) (w_at wL_13 15 (p := 327) rfl rfl rfl) (w_at wL_13 16 (p := 328) rfl rfl rfl) rfl
theorem dL_law_329 : decode cL_law 329 = .ok (.pop, 1) := dk_87 (w_at wL_13 17 (p := 329) rfl rfl rfl)
theorem dL_law_333 : decode cL_law 333 = .ok (.aload_n 1, 1) := dk_43 (w_at wL_13 21 (p := 333) rfl rfl rfl)
theorem dL_law_334 : decode cL_law 334 = .ok (.aload_n 0, 1) := dk_42 (w_at wL_13 22 (p := 334) rfl rfl rfl)
theorem dL_law_335 : decode cL_law 335 = .ok (.iload_n 3, 1) := dk_29 (w_at wL_13 23 (p := 335) rfl rfl rfl)
set_option maxRecDepth 100000 in
theorem wL_14 : Win cL_law 336 [4, 96, 46, 182, 0, 27, 87, 44, 42, 29, 4, 96, 46, 182, 0, 30, 87, 167, 4, 132, 43, 42, 29, 4, 96, 46, 42, 29] := Win_sub (o := 240) (o2 := 96) (n := 28) WL_1 (by decide +kernel)
theorem dL_law_336 : decode cL_law 336 = .ok (.iconst 1, 1) := dk_4 (w_at wL_14 0 (p := 336) rfl rfl rfl)
theorem dL_law_337 : decode cL_law 337 = .ok (.iadd, 1) := dk_96 (w_at wL_14 1 (p := 337) rfl rfl rfl)
theorem dL_law_338 : decode cL_law 338 = .ok (.iaload, 1) := dk_46 (w_at wL_14 2 (p := 338) rfl rfl rfl)
theorem dL_law_339 : decode cL_law 339 = .ok (.invokevirtual 27, 3) := dk_iv (w_at wL_14 3 (p := 339) rfl rfl rfl) (w_at wL_14 4 (p := 340) rfl rfl rfl) (w_at wL_14 5 (p := 341) rfl rfl rfl) rfl
theorem dL_law_342 : decode cL_law 342 = .ok (.pop, 1) := dk_87 (w_at wL_14 6 (p := 342) rfl rfl rfl)
theorem dL_law_343 : decode cL_law 343 = .ok (.aload_n 2, 1) := dk_44 (w_at wL_14 7 (p := 343) rfl rfl rfl)
theorem dL_law_344 : decode cL_law 344 = .ok (.aload_n 0, 1) := dk_42 (w_at wL_14 8 (p := 344) rfl rfl rfl)
theorem dL_law_345 : decode cL_law 345 = .ok (.iload_n 3, 1) := dk_29 (w_at wL_14 9 (p := 345) rfl rfl rfl)
theorem dL_law_346 : decode cL_law 346 = .ok (.iconst 1, 1) := dk_4 (w_at wL_14 10 (p := 346) rfl rfl rfl)
theorem dL_law_347 : decode cL_law 347 = .ok (.iadd, 1) := dk_96 (w_at wL_14 11 (p := 347) rfl rfl rfl)
theorem dL_law_348 : decode cL_law 348 = .ok (.iaload, 1) := dk_46 (w_at wL_14 12 (p := 348) rfl rfl rfl)
theorem dL_law_349 : decode cL_law 349 = .ok (.invokevirtual 30, 3) := dk_iv (w_at wL_14 13 (p := 349) rfl rfl rfl) (w_at wL_14 14 (p := 350) rfl rfl rfl) (w_at wL_14 15 (p := 351) rfl rfl rfl) rfl
theorem dL_law_352 : decode cL_law 352 = .ok (.pop, 1) := dk_87 (w_at wL_14 16 (p := 352) rfl rfl rfl)
theorem dL_law_356 : decode cL_law 356 = .ok (.aload_n 1, 1) := dk_43 (w_at wL_14 20 (p := 356) rfl rfl rfl)
theorem dL_law_357 : decode cL_law 357 = .ok (.aload_n 0, 1) := dk_42 (w_at wL_14 21 (p := 357) rfl rfl rfl)
theorem dL_law_358 : decode cL_law 358 = .ok (.iload_n 3, 1) := dk_29 (w_at wL_14 22 (p := 358) rfl rfl rfl)
theorem dL_law_359 : decode cL_law 359 = .ok (.iconst 1, 1) := dk_4 (w_at wL_14 23 (p := 359) rfl rfl rfl)
set_option maxRecDepth 100000 in
theorem wL_15 : Win cL_law 360 [96, 46, 42, 29, 5, 96, 46, 182, 0, 31, 87, 44, 42, 29, 4, 96, 46, 42, 29, 5, 96, 46, 182, 0, 35, 87, 167, 4] := Win_sub (o := 240) (o2 := 120) (n := 28) WL_1 (by decide +kernel)
theorem dL_law_360 : decode cL_law 360 = .ok (.iadd, 1) := dk_96 (w_at wL_15 0 (p := 360) rfl rfl rfl)
theorem dL_law_361 : decode cL_law 361 = .ok (.iaload, 1) := dk_46 (w_at wL_15 1 (p := 361) rfl rfl rfl)
theorem dL_law_362 : decode cL_law 362 = .ok (.aload_n 0, 1) := dk_42 (w_at wL_15 2 (p := 362) rfl rfl rfl)
theorem dL_law_363 : decode cL_law 363 = .ok (.iload_n 3, 1) := dk_29 (w_at wL_15 3 (p := 363) rfl rfl rfl)
theorem dL_law_364 : decode cL_law 364 = .ok (.iconst 2, 1) := dk_5 (w_at wL_15 4 (p := 364) rfl rfl rfl)
theorem dL_law_365 : decode cL_law 365 = .ok (.iadd, 1) := dk_96 (w_at wL_15 5 (p := 365) rfl rfl rfl)
theorem dL_law_366 : decode cL_law 366 = .ok (.iaload, 1) := dk_46 (w_at wL_15 6 (p := 366) rfl rfl rfl)
theorem dL_law_367 : decode cL_law 367 = .ok (.invokevirtual 31, 3) := dk_iv (w_at wL_15 7 (p := 367) rfl rfl rfl) (w_at wL_15 8 (p := 368) rfl rfl rfl) (w_at wL_15 9 (p := 369) rfl rfl rfl) rfl
theorem dL_law_370 : decode cL_law 370 = .ok (.pop, 1) := dk_87 (w_at wL_15 10 (p := 370) rfl rfl rfl)
theorem dL_law_371 : decode cL_law 371 = .ok (.aload_n 2, 1) := dk_44 (w_at wL_15 11 (p := 371) rfl rfl rfl)
theorem dL_law_372 : decode cL_law 372 = .ok (.aload_n 0, 1) := dk_42 (w_at wL_15 12 (p := 372) rfl rfl rfl)
theorem dL_law_373 : decode cL_law 373 = .ok (.iload_n 3, 1) := dk_29 (w_at wL_15 13 (p := 373) rfl rfl rfl)
theorem dL_law_374 : decode cL_law 374 = .ok (.iconst 1, 1) := dk_4 (w_at wL_15 14 (p := 374) rfl rfl rfl)
theorem dL_law_375 : decode cL_law 375 = .ok (.iadd, 1) := dk_96 (w_at wL_15 15 (p := 375) rfl rfl rfl)
theorem dL_law_376 : decode cL_law 376 = .ok (.iaload, 1) := dk_46 (w_at wL_15 16 (p := 376) rfl rfl rfl)
theorem dL_law_377 : decode cL_law 377 = .ok (.aload_n 0, 1) := dk_42 (w_at wL_15 17 (p := 377) rfl rfl rfl)
theorem dL_law_378 : decode cL_law 378 = .ok (.iload_n 3, 1) := dk_29 (w_at wL_15 18 (p := 378) rfl rfl rfl)
theorem dL_law_379 : decode cL_law 379 = .ok (.iconst 2, 1) := dk_5 (w_at wL_15 19 (p := 379) rfl rfl rfl)
theorem dL_law_380 : decode cL_law 380 = .ok (.iadd, 1) := dk_96 (w_at wL_15 20 (p := 380) rfl rfl rfl)
theorem dL_law_381 : decode cL_law 381 = .ok (.iaload, 1) := dk_46 (w_at wL_15 21 (p := 381) rfl rfl rfl)
theorem dL_law_382 : decode cL_law 382 = .ok (.invokevirtual 35, 3) := dk_iv (w_at wL_15 22 (p := 382) rfl rfl rfl) (w_at wL_15 23 (p := 383) rfl rfl rfl) (w_at wL_15 24 (p := 384) rfl rfl rfl) rfl
set_option maxRecDepth 100000 in
theorem wL_16 : Win cL_law 384 [35, 87, 167, 4, 99, 43, 42, 29, 4, 96, 46, 42, 29, 5, 96, 46, 42, 29, 6, 96, 46, 182, 0, 36, 87, 44, 42, 29] := Win_sub (o := 240) (o2 := 144) (n := 28) WL_1 (by decide +kernel)
theorem dL_law_385 : decode cL_law 385 = .ok (.pop, 1) := dk_87 (w_at wL_16 1 (p := 385) rfl rfl rfl)
set_option maxRecDepth 100000 in
theorem dvL_law_220 : ([(220, .goto 1289, 3), (243, .goto 1266, 3), (274, .bipush 6, 2), (280, .bipush 7, 2), (316, .bipush 6, 2), (322, .bipush 7, 2), (330, .goto 1179, 3), (353, .goto 1156, 3), (386, .goto 1123, 3)] : List (Nat × Instr × Nat)).all (fun q => decide (decode cL_law q.1 = .ok (q.2.1, q.2.2))) = true := by decide +kernel
theorem dL_law_220 : decode cL_law 220 = .ok (.goto 1289, 3) := all_at dvL_law_220 0 rfl
theorem dL_law_243 : decode cL_law 243 = .ok (.goto 1266, 3) := all_at dvL_law_220 1 rfl
theorem dL_law_274 : decode cL_law 274 = .ok (.bipush 6, 2) := all_at dvL_law_220 2 rfl
theorem dL_law_280 : decode cL_law 280 = .ok (.bipush 7, 2) := all_at dvL_law_220 3 rfl
theorem dL_law_316 : decode cL_law 316 = .ok (.bipush 6, 2) := all_at dvL_law_220 4 rfl
theorem dL_law_322 : decode cL_law 322 = .ok (.bipush 7, 2) := all_at dvL_law_220 5 rfl
theorem dL_law_330 : decode cL_law 330 = .ok (.goto 1179, 3) := all_at dvL_law_220 6 rfl
theorem dL_law_353 : decode cL_law 353 = .ok (.goto 1156, 3) := all_at dvL_law_220 7 rfl
theorem dL_law_386 : decode cL_law 386 = .ok (.goto 1123, 3) := all_at dvL_law_220 8 rfl
set_option maxHeartbeats 4000000 in
set_option maxRecDepth 100000 in
theorem law_0 {p : Program} {e : Env} {s : State} {m : MethodId} {below : List Frame} {meth : Method} {c : Code} (l : Launch) {b L : Nat} {xs : Nat → Int32} (hL : L ≤ 4096) (C0 : lw_At p s m meth c b L xs) {dC : Nat → ClassId} {dI : Nat → Nat → Nat} {A : Nat → Prop} (hA : ∀ q : Nat, s.heap.size ≤ q → A q) (hbA : ¬ A b) (hAs : ∀ q : Nat, A q → s.heap.size ≤ q) {x y : Nat} {gx gy : Nat → Nat → Nat} {cax cay : Nat → Nat → ClassId} {ak av : Nat → Nat} (hKx : va_K (dC, dI) classes (TX cax) s) (hKy : va_K (dC, dI) classes (TM cay) s) (hXY : ∀ a ∈ AdX x gx, ∀ b ∈ AdM y gy, a ≠ b) (hZ : zC ak av A s s.heap) {H : Heap} {locs : List Loc} {ivx : Nat → Nat → Int32} {lvx : Nat → Nat → Int64} {fax : Nat → Nat → Nat → Int32} {lax : Nat → Nat → Nat → Int64} {ivy : Nat → Nat → Int32} {lvy : Nat → Nat → Int64} {fay : Nat → Nat → Nat → Int32} {lay : Nat → Nat → Nat → Int64} (hIx : IX ivx fax) (hIy : IX ivy fay) (hJC : JCf (ivy 12 23).toInt (fay 12 25) (fay 12 26) (fay 12 27) (fay 12 28)) (hJR : JRf (ivy 12 3).toInt (fay 12 7)) (hJN : JNf (ivy 12 3).toInt (fay 12 4) (fay 12 5)) (hJO : ((ivy 12 20).toInt = -1 ∧ (ivy 12 21).toInt = -1 ∧ (ivy 12 22).toInt = -1)) (hq_now : ivx 11 10 = ivy 12 0) (hq_bales : ivx 0 7 = ivy 12 1) (hq_skeins : ivx 10 1 = ivy 12 3) (hq_rules : ivx 1 7 = ivy 12 23) (hq_text : ivx 8 2 = ivy 12 33) (hq_place : ivx 8 3 = ivy 12 36) (hq_papers : ivx 6 7 = ivy 12 67) (hrs : (∀ s : Nat, (s : Int) < (ivy 12 3).toInt → fax 10 0 (9 * s + 0) = fay 12 4 s ∧ fax 10 0 (9 * s + 1) = fay 12 5 s ∧ fax 10 0 (9 * s + 2) = fay 12 6 s ∧ fax 10 0 (9 * s + 3) = fay 12 7 s ∧ fax 10 0 (9 * s + 4) = fay 12 8 s ∧ fax 10 0 (9 * s + 5) = fay 12 9 s ∧ fax 10 0 (9 * s + 6) = fay 12 10 s ∧ fax 10 0 (9 * s + 7) = fay 12 11 s ∧ fax 10 0 (9 * s + 8) = fay 12 12 s)) (hls : (∀ j : Nat, -1 ≤ (fay 12 12 j).toInt)) (hwd : (∀ s : Nat, (s : Int) < (ivy 12 3).toInt → (100 ≤ (fay 12 7 s).toInt ∧ (fay 12 7 s).toInt ≤ 9999) ∧ (50 ≤ (fay 12 8 s).toInt ∧ (fay 12 8 s).toInt ≤ 9999))) (htx : (∀ j : Nat, (fax 8 1 j).toInt = sg (fay 12 32 j).toInt ∧ 0 ≤ (fay 12 32 j).toInt)) (hbk : BkE (ivy 12 23).toInt (fax 1 0) (fax 1 1) (fax 1 2) (fax 1 3) (fax 1 4) (fax 1 5) (fay 12 24) (fay 12 25) (fay 12 26) (fay 12 27) (fay 12 28) (fay 12 29) (fay 12 30) (fay 12 31)) (hgr : (∀ j : Nat, fax 0 0 j = fay 12 2 j)) (hgb : (∀ j : Nat, (j : Int) < (ivx 0 7).toInt → 1 ≤ (fax 0 0 j).toInt ∧ (fax 0 0 j).toInt ≤ 99999)) (hpa : PaE (ivy 12 67).toInt (fax 6 0) (fax 6 1) (fax 6 2) (fax 6 3) (fax 6 4) (fax 6 5) (fay 12 68) (fay 12 69) (lay 12 70) (fay 12 71) (fay 12 72) (fay 12 73)) (hdr : (∀ s : Nat, (s : Int) < (ivy 12 3).toInt → (fay 12 8 s).toInt ≤ (fay 12 7 s).toInt)) (hPx : va_P (dC, dI) classes (WX x gx cax ivx lvx fax lax) H) (hDx : va_D A (WX x gx cax ivx lvx fax lax)) (hPy : va_P (dC, dI) classes (WM y gy cay ivy lvy fay lay) H) (hDy : va_D A (WM y gy cay ivy lvy fay lay)) (hS : va_S A s.heap H locs) {i : Int32} {ls : Array Slot} (hl : lv_has ls 4 [(3, .int i), (2, .ref y), (1, .ref x), (0, .ref b)]) (hi : 0 ≤ i.toInt ∧ i.toInt ≤ 4088) (hi8 : i.toInt + 8 ≤ (L : Int)) (kk : ∀ (H : Heap) (locs : List Loc) (ivx : Nat → Nat → Int32) (lvx : Nat → Nat → Int64) (fax : Nat → Nat → Nat → Int32) (lax : Nat → Nat → Nat → Int64) (ivy : Nat → Nat → Int32) (lvy : Nat → Nat → Int64) (fay : Nat → Nat → Nat → Int32) (lay : Nat → Nat → Nat → Int64), IX ivx fax → IX ivy fay → JCf (ivy 12 23).toInt (fay 12 25) (fay 12 26) (fay 12 27) (fay 12 28) → JRf (ivy 12 3).toInt (fay 12 7) → JNf (ivy 12 3).toInt (fay 12 4) (fay 12 5) → ((ivy 12 20).toInt = -1 ∧ (ivy 12 21).toInt = -1 ∧ (ivy 12 22).toInt = -1) → ivx 11 10 = ivy 12 0 → ivx 0 7 = ivy 12 1 → ivx 10 1 = ivy 12 3 → ivx 1 7 = ivy 12 23 → ivx 8 2 = ivy 12 33 → ivx 8 3 = ivy 12 36 → ivx 6 7 = ivy 12 67 → (∀ s : Nat, (s : Int) < (ivy 12 3).toInt → fax 10 0 (9 * s + 0) = fay 12 4 s ∧ fax 10 0 (9 * s + 1) = fay 12 5 s ∧ fax 10 0 (9 * s + 2) = fay 12 6 s ∧ fax 10 0 (9 * s + 3) = fay 12 7 s ∧ fax 10 0 (9 * s + 4) = fay 12 8 s ∧ fax 10 0 (9 * s + 5) = fay 12 9 s ∧ fax 10 0 (9 * s + 6) = fay 12 10 s ∧ fax 10 0 (9 * s + 7) = fay 12 11 s ∧ fax 10 0 (9 * s + 8) = fay 12 12 s) → (∀ j : Nat, -1 ≤ (fay 12 12 j).toInt) → (∀ s : Nat, (s : Int) < (ivy 12 3).toInt → (100 ≤ (fay 12 7 s).toInt ∧ (fay 12 7 s).toInt ≤ 9999) ∧ (50 ≤ (fay 12 8 s).toInt ∧ (fay 12 8 s).toInt ≤ 9999)) → (∀ j : Nat, (fax 8 1 j).toInt = sg (fay 12 32 j).toInt ∧ 0 ≤ (fay 12 32 j).toInt) → BkE (ivy 12 23).toInt (fax 1 0) (fax 1 1) (fax 1 2) (fax 1 3) (fax 1 4) (fax 1 5) (fay 12 24) (fay 12 25) (fay 12 26) (fay 12 27) (fay 12 28) (fay 12 29) (fay 12 30) (fay 12 31) → (∀ j : Nat, fax 0 0 j = fay 12 2 j) → (∀ j : Nat, (j : Int) < (ivx 0 7).toInt → 1 ≤ (fax 0 0 j).toInt ∧ (fax 0 0 j).toInt ≤ 99999) → PaE (ivy 12 67).toInt (fax 6 0) (fax 6 1) (fax 6 2) (fax 6 3) (fax 6 4) (fax 6 5) (fay 12 68) (fay 12 69) (lay 12 70) (fay 12 71) (fay 12 72) (fay 12 73) → (∀ s : Nat, (s : Int) < (ivy 12 3).toInt → (fay 12 8 s).toInt ≤ (fay 12 7 s).toInt) → va_P (dC, dI) classes (WX x gx cax ivx lvx fax lax) H → va_D A (WX x gx cax ivx lvx fax lax) → va_P (dC, dI) classes (WM y gy cay ivy lvy fay lay) H → va_D A (WM y gy cay ivy lvy fay lay) → va_S A s.heap H locs → W p l e room_1 s m #[Value.ref b] below meth c H locs 98 5431 (lw_Z below #[Value.ref b] s) (F0 m 1509 ls [])) : W p l e room_1 s m #[Value.ref b] below meth c H locs 98 5431 (lw_Z below #[Value.ref b] s) (F0 m 200 ls []) := by
  obtain ⟨hx, hb, hr, hml, hown, hts, hX, hbl, hlocks, hgv⟩ := id C0
  have ht := tb_of hts
  have hJD := hwd
  have hw8 := congrArg Int32.toInt hq_skeins
  have hJW : ∀ s : Nat, (s : Int) < (ivx 10 1).toInt → (100 ≤ (fax 10 0 (9 * s + 3)).toInt ∧ (fax 10 0 (9 * s + 3)).toInt ≤ 9999) ∧ (50 ≤ (fax 10 0 (9 * s + 4)).toInt ∧ (fax 10 0 (9 * s + 4)).toInt ≤ 9999) := fun s hs => by rw [(hrs s (by omega)).2.2.2.1, (hrs s (by omega)).2.2.2.2.1]; exact hwd s (by omega)
  have hw8r := congrArg Int32.toInt hq_rules
  have hJB : ∀ j : Nat, (j : Int) < (ivx 1 7).toInt → 0 ≤ (fax 1 0 j).toInt := fun j hj => (hbk j (by omega)).2.2.1
  have hJK : ∀ k j : Nat, (k : Int) < (ivy 12 23).toInt → 12 * k ≤ j → (j : Int) < 12 * (k : Int) + (fay 12 25 k).toInt → (fay 12 26 j).toInt = 3 → 0 ≤ (fay 12 28 j).toInt ∧ (fay 12 28 j).toInt < (k : Int) := bk_K hbk
  have hw8b := congrArg Int32.toInt hq_bales
  have hJF : ∀ a d v : Int, 0 ≤ a → a ≤ 5 → FoX (ivx 1 7).toInt (fax 1 0) (fax 1 1) (fax 1 2) (fax 1 3) a d v → fLo a ≤ v ∧ v ≤ fHi a := fun a d v h1 h2 x => by rw [hq_rules] at x; exact FoX_b hbk ⟨h1, h2⟩ x
  have hJH : ∀ a d v : Int, 0 ≤ a → a ≤ 5 → FoY (ivy 12 23).toInt (fay 12 24) (fay 12 25) (fay 12 26) (fay 12 27) (fay 12 28) a d v → fLo a ≤ v ∧ v ≤ fHi a := fun a d v h1 h2 x => FoY_b hbk ⟨h1, h2⟩ x
  have hJG := hgb
  have hJI : ∀ j : Nat, (j : Int) < (ivy 12 1).toInt → 1 ≤ (fay 12 2 j).toInt ∧ (fay 12 2 j).toInt ≤ 99999 := fun j hj => by rw [← hgr j]; exact hgb j (by omega)
  have hJL : ∀ b l : Int32, cn0 (fun s => fax 10 0 (9 * s + 0)) (fun s => fax 10 0 (9 * s + 1)) b l (ivx 10 1).toInt.toNat ≤ 12 := fun b l => by rw [hq_skeins, cn0_congr (ob := fay 12 4) (ol := fay 12 5) _ (fun j hj => ⟨(hrs j (by omega)).1, (hrs j (by omega)).2.1⟩)]; exact hJN b l
  have hw8p := congrArg Int32.toInt hq_papers
  have hJQ : ∀ p : Nat, (p : Int) < (ivy 12 67).toInt → 0 ≤ (lay 12 70 p).toInt ∧ ((fay 12 68 p).toInt = 0 → (lay 12 70 p).toInt ≤ 129998) ∧ (lay 12 70 p).toInt ≤ 129868002 ∧ -1 ≤ (fay 12 71 p).toInt ∧ (fay 12 71 p).toInt < (p : Int) := fun p hp => ⟨(hpa p hp).2.2.1, (hpa p hp).2.2.2.1, (hpa p hp).2.2.2.2.1, (hpa p hp).2.2.2.2.2.1, (hpa p hp).2.2.2.2.2.2.1⟩
  have hJP : ∀ p : Nat, (p : Int) < (ivx 6 7).toInt → 0 ≤ (fax 6 2 p).toInt ∧ ((fax 6 0 p).toInt = 0 → (fax 6 2 p).toInt ≤ 129998) ∧ (fax 6 2 p).toInt ≤ 129868002 ∧ -1 ≤ (fax 6 3 p).toInt ∧ (fax 6 3 p).toInt < (p : Int) := fun p hp => by rw [(hpa p (by omega)).1.1, (hpa p (by omega)).1.2.2.1, (hpa p (by omega)).1.2.2.2.1]; exact hJQ p (by omega)
  have hJS : ∀ s : Nat, (s : Int) < (ivx 10 1).toInt → (fax 10 0 (9 * s + 4)).toInt ≤ (fax 10 0 (9 * s + 3)).toInt := fun s hs => by rw [(hrs s (by omega)).2.2.2.1, (hrs s (by omega)).2.2.2.2.1]; exact hdr s (by omega)
  have hJT : ∀ j : Nat, 0 ≤ (fay 12 32 j).toInt := fun j => (htx j).2
  refine lv_aload_n hx hb dL_law_200 rfl (lv_at hl 2 rfl) ?_
  refine aw_iconst (v := 1) hx hb hX hbl hbA hS hl hi hi8 (by decide) ⟨by decide, by decide⟩ dL_law_201 dL_law_202 dL_law_203 dL_law_204 dL_law_205 (fun v1 ev1 v2 ev2 => ?_)
  have hFc := free_all hDx hS hA
  refine va_calli (va_runV (As := [.int v2]) (rest := []) ⟨hx, hb, hml, hown, ht⟩ (c_X11_go_x l dC dI H.size x gx cax ivx lvx fax lax hIx v2) (kV 1 ht m_449 m_450 m_451 m_77 m_452 rfl rfl hd_X11_go_v ⟨Nat.le_of_ble_eq_true rfl, Nat.le_of_ble_eq_true rfl⟩) (vW hPx hKx hDx (rX_11 hKx hPx)) rfl rfl hl.1 rfl (lv_room (Nat.le_of_ble_eq_true rfl)) dL_law_206 ⟨Nat.le_of_ble_eq_true rfl, Nat.le_of_ble_eq_true rfl⟩) hS (fun q _ h => hFc q h) hFc (fun r3 u t H1 locs ht9 hvm hr3 hB hz1 hk1 hS => ?_)
  obtain ⟨n4, hn4, xr3_0, hr3, rfl⟩ := hr3
  obtain ⟨hPx, hDx⟩ := hB
  rw [ht9] at hPx
  have hPy := P_kept hPy (la := AdM y gy) (lb := AdX x gx) wmM wmX (fun a ha b hb => (hXY b hb a ha).symm) hk1
  generalize H1 = H at hPx hPy hS ⊢
  have hPx : va_P (dC, dI) classes (WX x gx cax (u2 ivx 11 10 n4) lvx fax lax) H := hPx
  have hDx : va_D A (WX x gx cax (u2 ivx 11 10 n4) lvx fax lax) := (show va_D _ (WX x gx cax (u2 ivx 11 10 n4) lvx fax lax) from hDx).weaken (fun _ _ _ h => hFc _ h)
  refine lv_pop hx hb dL_law_209 rfl ?_
  refine lv_aload_n hx hb dL_law_210 rfl (lv_at hl 1 rfl) ?_
  refine aw_iconst (v := 1) hx hb hX hbl hbA hS hl hi hi8 (by decide) ⟨by decide, by decide⟩ dL_law_211 dL_law_212 dL_law_213 dL_law_214 dL_law_215 (fun v5 ev5 v6 ev6 => ?_)
  have hFc := free_all hDy hS hA
  refine va_calli (va_runV (As := [.int v6]) (rest := []) ⟨hx, hb, hml, hown, ht⟩ (c_X12_go_x l dC dI H.size y gy cay ivy lvy fay lay hIy v6) (kV 1 ht m_1365 m_1366 m_1367 m_89 m_1368 rfl rfl hd_X12_go_v ⟨Nat.le_of_ble_eq_true rfl, Nat.le_of_ble_eq_true rfl⟩) (vW hPy hKy hDy (rM_12 hKy hPy)) rfl rfl hl.1 rfl (lv_room (Nat.le_of_ble_eq_true rfl)) dL_law_216 ⟨Nat.le_of_ble_eq_true rfl, Nat.le_of_ble_eq_true rfl⟩) hS (fun q _ h => hFc q h) hFc (fun r7 u t H1 locs ht9 hvm hr7 hB hz1 hk1 hS => ?_)
  obtain ⟨n8, hn8, xr7_0, hr7, rfl⟩ := hr7
  obtain ⟨hPy, hDy⟩ := hB
  rw [ht9] at hPy
  have hPx := P_kept hPx (la := AdX x gx) (lb := AdM y gy) wmX wmM hXY hk1
  generalize H1 = H at hPx hPy hS ⊢
  have hPy : va_P (dC, dI) classes (WM y gy cay (u2 ivy 12 0 n8) lvy fay lay) H := hPy
  have hDy : va_D A (WM y gy cay (u2 ivy 12 0 n8) lvy fay lay) := (show va_D _ (WM y gy cay (u2 ivy 12 0 n8) lvy fay lay) from hDy).weaken (fun _ _ _ h => hFc _ h)
  have q9x : ((r3.toInt = -100002 ∧ ¬ (0 ≤ (v2 : Int32).toInt ∧ (v2 : Int32).toInt ≤ 999) ∧ n4.toInt = (ivx 11 10).toInt) ∨ (r3.toInt = -100003 ∧ 0 ≤ (v2 : Int32).toInt ∧ (v2 : Int32).toInt ≤ 999 ∧ 3000 < (ivx 11 10).toInt + (v2 : Int32).toInt ∧ n4.toInt = (ivx 11 10).toInt) ∨ (0 ≤ (v2 : Int32).toInt ∧ (v2 : Int32).toInt ≤ 999 ∧ (ivx 11 10).toInt + (v2 : Int32).toInt ≤ 3000 ∧ r3.toInt = (ivx 11 10).toInt + (v2 : Int32).toInt ∧ n4.toInt = (ivx 11 10).toInt + (v2 : Int32).toInt)) := xr3_0
  have q9y : ((r7.toInt = -100002 ∧ ¬ (0 ≤ (v6 : Int32).toInt ∧ (v6 : Int32).toInt ≤ 999) ∧ n8.toInt = (ivy 12 0).toInt) ∨ (r7.toInt = -100003 ∧ 0 ≤ (v6 : Int32).toInt ∧ (v6 : Int32).toInt ≤ 999 ∧ 3000 < (ivy 12 0).toInt + (v6 : Int32).toInt ∧ n8.toInt = (ivy 12 0).toInt) ∨ (0 ≤ (v6 : Int32).toInt ∧ (v6 : Int32).toInt ≤ 999 ∧ (ivy 12 0).toInt + (v6 : Int32).toInt ≤ 3000 ∧ r7.toInt = (ivy 12 0).toInt + (v6 : Int32).toInt ∧ n8.toInt = (ivy 12 0).toInt + (v6 : Int32).toInt)) := xr7_0
  have hv9_0 : (v2 : Int32) = v6 := by rw [ev2, ev6, ev1, ev5]
  have hu9_0 := congrArg Int32.toInt hv9_0
  have hw9_now := congrArg Int32.toInt hq_now
  have hw9_bales := congrArg Int32.toInt hq_bales
  have hw9_skeins := congrArg Int32.toInt hq_skeins
  have hw9_rules := congrArg Int32.toInt hq_rules
  have hw9_text := congrArg Int32.toInt hq_text
  have hw9_place := congrArg Int32.toInt hq_place
  have hw9_papers := congrArg Int32.toInt hq_papers
  refine lv_pop hx hb dL_law_219 rfl ?_
  refine lv_goto (tgt := 1509) hx hb dL_law_220 (by decide) ?_
  exact kk _ _ (u2 ivx 11 10 n4) lvx fax lax (u2 ivy 12 0 n8) lvy fay lay (IX_i (c := 11) (k := 10) hIx hn4) (IX_i (c := 12) (k := 0) hIy hn8) hJC hJR hJN hJO (show (n4 : Int32) = n8 from Int32.toInt_inj.mp (by omega)) hq_bales hq_skeins hq_rules hq_text hq_place hq_papers hrs hls hwd htx hbk hgr hgb hpa hdr hPx hDx hPy hDy hS
set_option maxHeartbeats 4000000 in
set_option maxRecDepth 100000 in
theorem law_1 {p : Program} {e : Env} {s : State} {m : MethodId} {below : List Frame} {meth : Method} {c : Code} (l : Launch) {b L : Nat} {xs : Nat → Int32} (hL : L ≤ 4096) (C0 : lw_At p s m meth c b L xs) {dC : Nat → ClassId} {dI : Nat → Nat → Nat} {A : Nat → Prop} (hA : ∀ q : Nat, s.heap.size ≤ q → A q) (hbA : ¬ A b) (hAs : ∀ q : Nat, A q → s.heap.size ≤ q) {x y : Nat} {gx gy : Nat → Nat → Nat} {cax cay : Nat → Nat → ClassId} {ak av : Nat → Nat} (hKx : va_K (dC, dI) classes (TX cax) s) (hKy : va_K (dC, dI) classes (TM cay) s) (hXY : ∀ a ∈ AdX x gx, ∀ b ∈ AdM y gy, a ≠ b) (hZ : zC ak av A s s.heap) {H : Heap} {locs : List Loc} {ivx : Nat → Nat → Int32} {lvx : Nat → Nat → Int64} {fax : Nat → Nat → Nat → Int32} {lax : Nat → Nat → Nat → Int64} {ivy : Nat → Nat → Int32} {lvy : Nat → Nat → Int64} {fay : Nat → Nat → Nat → Int32} {lay : Nat → Nat → Nat → Int64} (hIx : IX ivx fax) (hIy : IX ivy fay) (hJC : JCf (ivy 12 23).toInt (fay 12 25) (fay 12 26) (fay 12 27) (fay 12 28)) (hJR : JRf (ivy 12 3).toInt (fay 12 7)) (hJN : JNf (ivy 12 3).toInt (fay 12 4) (fay 12 5)) (hJO : ((ivy 12 20).toInt = -1 ∧ (ivy 12 21).toInt = -1 ∧ (ivy 12 22).toInt = -1)) (hq_now : ivx 11 10 = ivy 12 0) (hq_bales : ivx 0 7 = ivy 12 1) (hq_skeins : ivx 10 1 = ivy 12 3) (hq_rules : ivx 1 7 = ivy 12 23) (hq_text : ivx 8 2 = ivy 12 33) (hq_place : ivx 8 3 = ivy 12 36) (hq_papers : ivx 6 7 = ivy 12 67) (hrs : (∀ s : Nat, (s : Int) < (ivy 12 3).toInt → fax 10 0 (9 * s + 0) = fay 12 4 s ∧ fax 10 0 (9 * s + 1) = fay 12 5 s ∧ fax 10 0 (9 * s + 2) = fay 12 6 s ∧ fax 10 0 (9 * s + 3) = fay 12 7 s ∧ fax 10 0 (9 * s + 4) = fay 12 8 s ∧ fax 10 0 (9 * s + 5) = fay 12 9 s ∧ fax 10 0 (9 * s + 6) = fay 12 10 s ∧ fax 10 0 (9 * s + 7) = fay 12 11 s ∧ fax 10 0 (9 * s + 8) = fay 12 12 s)) (hls : (∀ j : Nat, -1 ≤ (fay 12 12 j).toInt)) (hwd : (∀ s : Nat, (s : Int) < (ivy 12 3).toInt → (100 ≤ (fay 12 7 s).toInt ∧ (fay 12 7 s).toInt ≤ 9999) ∧ (50 ≤ (fay 12 8 s).toInt ∧ (fay 12 8 s).toInt ≤ 9999))) (htx : (∀ j : Nat, (fax 8 1 j).toInt = sg (fay 12 32 j).toInt ∧ 0 ≤ (fay 12 32 j).toInt)) (hbk : BkE (ivy 12 23).toInt (fax 1 0) (fax 1 1) (fax 1 2) (fax 1 3) (fax 1 4) (fax 1 5) (fay 12 24) (fay 12 25) (fay 12 26) (fay 12 27) (fay 12 28) (fay 12 29) (fay 12 30) (fay 12 31)) (hgr : (∀ j : Nat, fax 0 0 j = fay 12 2 j)) (hgb : (∀ j : Nat, (j : Int) < (ivx 0 7).toInt → 1 ≤ (fax 0 0 j).toInt ∧ (fax 0 0 j).toInt ≤ 99999)) (hpa : PaE (ivy 12 67).toInt (fax 6 0) (fax 6 1) (fax 6 2) (fax 6 3) (fax 6 4) (fax 6 5) (fay 12 68) (fay 12 69) (lay 12 70) (fay 12 71) (fay 12 72) (fay 12 73)) (hdr : (∀ s : Nat, (s : Int) < (ivy 12 3).toInt → (fay 12 8 s).toInt ≤ (fay 12 7 s).toInt)) (hPx : va_P (dC, dI) classes (WX x gx cax ivx lvx fax lax) H) (hDx : va_D A (WX x gx cax ivx lvx fax lax)) (hPy : va_P (dC, dI) classes (WM y gy cay ivy lvy fay lay) H) (hDy : va_D A (WM y gy cay ivy lvy fay lay)) (hS : va_S A s.heap H locs) {i : Int32} {ls : Array Slot} (hl : lv_has ls 4 [(3, .int i), (2, .ref y), (1, .ref x), (0, .ref b)]) (hi : 0 ≤ i.toInt ∧ i.toInt ≤ 4088) (hi8 : i.toInt + 8 ≤ (L : Int)) (kk : ∀ (H : Heap) (locs : List Loc) (ivx : Nat → Nat → Int32) (lvx : Nat → Nat → Int64) (fax : Nat → Nat → Nat → Int32) (lax : Nat → Nat → Nat → Int64) (ivy : Nat → Nat → Int32) (lvy : Nat → Nat → Int64) (fay : Nat → Nat → Nat → Int32) (lay : Nat → Nat → Nat → Int64), IX ivx fax → IX ivy fay → JCf (ivy 12 23).toInt (fay 12 25) (fay 12 26) (fay 12 27) (fay 12 28) → JRf (ivy 12 3).toInt (fay 12 7) → JNf (ivy 12 3).toInt (fay 12 4) (fay 12 5) → ((ivy 12 20).toInt = -1 ∧ (ivy 12 21).toInt = -1 ∧ (ivy 12 22).toInt = -1) → ivx 11 10 = ivy 12 0 → ivx 0 7 = ivy 12 1 → ivx 10 1 = ivy 12 3 → ivx 1 7 = ivy 12 23 → ivx 8 2 = ivy 12 33 → ivx 8 3 = ivy 12 36 → ivx 6 7 = ivy 12 67 → (∀ s : Nat, (s : Int) < (ivy 12 3).toInt → fax 10 0 (9 * s + 0) = fay 12 4 s ∧ fax 10 0 (9 * s + 1) = fay 12 5 s ∧ fax 10 0 (9 * s + 2) = fay 12 6 s ∧ fax 10 0 (9 * s + 3) = fay 12 7 s ∧ fax 10 0 (9 * s + 4) = fay 12 8 s ∧ fax 10 0 (9 * s + 5) = fay 12 9 s ∧ fax 10 0 (9 * s + 6) = fay 12 10 s ∧ fax 10 0 (9 * s + 7) = fay 12 11 s ∧ fax 10 0 (9 * s + 8) = fay 12 12 s) → (∀ j : Nat, -1 ≤ (fay 12 12 j).toInt) → (∀ s : Nat, (s : Int) < (ivy 12 3).toInt → (100 ≤ (fay 12 7 s).toInt ∧ (fay 12 7 s).toInt ≤ 9999) ∧ (50 ≤ (fay 12 8 s).toInt ∧ (fay 12 8 s).toInt ≤ 9999)) → (∀ j : Nat, (fax 8 1 j).toInt = sg (fay 12 32 j).toInt ∧ 0 ≤ (fay 12 32 j).toInt) → BkE (ivy 12 23).toInt (fax 1 0) (fax 1 1) (fax 1 2) (fax 1 3) (fax 1 4) (fax 1 5) (fay 12 24) (fay 12 25) (fay 12 26) (fay 12 27) (fay 12 28) (fay 12 29) (fay 12 30) (fay 12 31) → (∀ j : Nat, fax 0 0 j = fay 12 2 j) → (∀ j : Nat, (j : Int) < (ivx 0 7).toInt → 1 ≤ (fax 0 0 j).toInt ∧ (fax 0 0 j).toInt ≤ 99999) → PaE (ivy 12 67).toInt (fax 6 0) (fax 6 1) (fax 6 2) (fax 6 3) (fax 6 4) (fax 6 5) (fay 12 68) (fay 12 69) (lay 12 70) (fay 12 71) (fay 12 72) (fay 12 73) → (∀ s : Nat, (s : Int) < (ivy 12 3).toInt → (fay 12 8 s).toInt ≤ (fay 12 7 s).toInt) → va_P (dC, dI) classes (WX x gx cax ivx lvx fax lax) H → va_D A (WX x gx cax ivx lvx fax lax) → va_P (dC, dI) classes (WM y gy cay ivy lvy fay lay) H → va_D A (WM y gy cay ivy lvy fay lay) → va_S A s.heap H locs → W p l e room_1 s m #[Value.ref b] below meth c H locs 98 5431 (lw_Z below #[Value.ref b] s) (F0 m 1509 ls [])) : W p l e room_1 s m #[Value.ref b] below meth c H locs 98 5431 (lw_Z below #[Value.ref b] s) (F0 m 223 ls []) := by
  obtain ⟨hx, hb, hr, hml, hown, hts, hX, hbl, hlocks, hgv⟩ := id C0
  have ht := tb_of hts
  have hJD := hwd
  have hw8 := congrArg Int32.toInt hq_skeins
  have hJW : ∀ s : Nat, (s : Int) < (ivx 10 1).toInt → (100 ≤ (fax 10 0 (9 * s + 3)).toInt ∧ (fax 10 0 (9 * s + 3)).toInt ≤ 9999) ∧ (50 ≤ (fax 10 0 (9 * s + 4)).toInt ∧ (fax 10 0 (9 * s + 4)).toInt ≤ 9999) := fun s hs => by rw [(hrs s (by omega)).2.2.2.1, (hrs s (by omega)).2.2.2.2.1]; exact hwd s (by omega)
  have hw8r := congrArg Int32.toInt hq_rules
  have hJB : ∀ j : Nat, (j : Int) < (ivx 1 7).toInt → 0 ≤ (fax 1 0 j).toInt := fun j hj => (hbk j (by omega)).2.2.1
  have hJK : ∀ k j : Nat, (k : Int) < (ivy 12 23).toInt → 12 * k ≤ j → (j : Int) < 12 * (k : Int) + (fay 12 25 k).toInt → (fay 12 26 j).toInt = 3 → 0 ≤ (fay 12 28 j).toInt ∧ (fay 12 28 j).toInt < (k : Int) := bk_K hbk
  have hw8b := congrArg Int32.toInt hq_bales
  have hJF : ∀ a d v : Int, 0 ≤ a → a ≤ 5 → FoX (ivx 1 7).toInt (fax 1 0) (fax 1 1) (fax 1 2) (fax 1 3) a d v → fLo a ≤ v ∧ v ≤ fHi a := fun a d v h1 h2 x => by rw [hq_rules] at x; exact FoX_b hbk ⟨h1, h2⟩ x
  have hJH : ∀ a d v : Int, 0 ≤ a → a ≤ 5 → FoY (ivy 12 23).toInt (fay 12 24) (fay 12 25) (fay 12 26) (fay 12 27) (fay 12 28) a d v → fLo a ≤ v ∧ v ≤ fHi a := fun a d v h1 h2 x => FoY_b hbk ⟨h1, h2⟩ x
  have hJG := hgb
  have hJI : ∀ j : Nat, (j : Int) < (ivy 12 1).toInt → 1 ≤ (fay 12 2 j).toInt ∧ (fay 12 2 j).toInt ≤ 99999 := fun j hj => by rw [← hgr j]; exact hgb j (by omega)
  have hJL : ∀ b l : Int32, cn0 (fun s => fax 10 0 (9 * s + 0)) (fun s => fax 10 0 (9 * s + 1)) b l (ivx 10 1).toInt.toNat ≤ 12 := fun b l => by rw [hq_skeins, cn0_congr (ob := fay 12 4) (ol := fay 12 5) _ (fun j hj => ⟨(hrs j (by omega)).1, (hrs j (by omega)).2.1⟩)]; exact hJN b l
  have hw8p := congrArg Int32.toInt hq_papers
  have hJQ : ∀ p : Nat, (p : Int) < (ivy 12 67).toInt → 0 ≤ (lay 12 70 p).toInt ∧ ((fay 12 68 p).toInt = 0 → (lay 12 70 p).toInt ≤ 129998) ∧ (lay 12 70 p).toInt ≤ 129868002 ∧ -1 ≤ (fay 12 71 p).toInt ∧ (fay 12 71 p).toInt < (p : Int) := fun p hp => ⟨(hpa p hp).2.2.1, (hpa p hp).2.2.2.1, (hpa p hp).2.2.2.2.1, (hpa p hp).2.2.2.2.2.1, (hpa p hp).2.2.2.2.2.2.1⟩
  have hJP : ∀ p : Nat, (p : Int) < (ivx 6 7).toInt → 0 ≤ (fax 6 2 p).toInt ∧ ((fax 6 0 p).toInt = 0 → (fax 6 2 p).toInt ≤ 129998) ∧ (fax 6 2 p).toInt ≤ 129868002 ∧ -1 ≤ (fax 6 3 p).toInt ∧ (fax 6 3 p).toInt < (p : Int) := fun p hp => by rw [(hpa p (by omega)).1.1, (hpa p (by omega)).1.2.2.1, (hpa p (by omega)).1.2.2.2.1]; exact hJQ p (by omega)
  have hJS : ∀ s : Nat, (s : Int) < (ivx 10 1).toInt → (fax 10 0 (9 * s + 4)).toInt ≤ (fax 10 0 (9 * s + 3)).toInt := fun s hs => by rw [(hrs s (by omega)).2.2.2.1, (hrs s (by omega)).2.2.2.2.1]; exact hdr s (by omega)
  have hJT : ∀ j : Nat, 0 ≤ (fay 12 32 j).toInt := fun j => (htx j).2
  refine lv_aload_n hx hb dL_law_223 rfl (lv_at hl 2 rfl) ?_
  refine aw_iconst (v := 1) hx hb hX hbl hbA hS hl hi hi8 (by decide) ⟨by decide, by decide⟩ dL_law_224 dL_law_225 dL_law_226 dL_law_227 dL_law_228 (fun v1 ev1 v2 ev2 => ?_)
  have hFc := free_all hDx hS hA
  refine va_calli (va_runV (As := [.int v2]) (rest := []) ⟨hx, hb, hml, hown, ht⟩ (c_X11_bale_x l dC dI H.size x gx cax ivx lvx fax lax hIx v2) (kV 1 ht m_458 m_459 m_460 m_77 m_461 rfl rfl hd_X11_bale_v ⟨Nat.le_of_ble_eq_true rfl, Nat.le_of_ble_eq_true rfl⟩) (vW hPx hKx hDx (rX_11 hKx hPx)) rfl rfl hl.1 rfl (lv_room (Nat.le_of_ble_eq_true rfl)) dL_law_229 ⟨Nat.le_of_ble_eq_true rfl, Nat.le_of_ble_eq_true rfl⟩) hS (fun q _ h => hFc q h) hFc (fun r3 u t H1 locs ht9 hvm hr3 hB hz1 hk1 hS => ?_)
  obtain ⟨n4, n5, hn5, xr3_0, xr3_1, hr3, rfl⟩ := hr3
  obtain ⟨hPx, hDx⟩ := hB
  rw [ht9] at hPx
  have hPy := P_kept hPy (la := AdM y gy) (lb := AdX x gx) wmM wmX (fun a ha b hb => (hXY b hb a ha).symm) hk1
  generalize H1 = H at hPx hPy hS ⊢
  have hPx : va_P (dC, dI) classes (WX x gx cax (u2 ivx 0 7 n5) lvx (u2 fax 0 0 n4) lax) H := hPx
  have hDx : va_D A (WX x gx cax (u2 ivx 0 7 n5) lvx (u2 fax 0 0 n4) lax) := (show va_D _ (WX x gx cax (u2 ivx 0 7 n5) lvx (u2 fax 0 0 n4) lax) from hDx).weaken (fun _ _ _ h => hFc _ h)
  refine lv_pop hx hb dL_law_232 rfl ?_
  refine lv_aload_n hx hb dL_law_233 rfl (lv_at hl 1 rfl) ?_
  refine aw_iconst (v := 1) hx hb hX hbl hbA hS hl hi hi8 (by decide) ⟨by decide, by decide⟩ dL_law_234 dL_law_235 dL_law_236 dL_law_237 dL_law_238 (fun v6 ev6 v7 ev7 => ?_)
  have hFc := free_all hDy hS hA
  refine va_calli (va_runV (As := [.int v7]) (rest := []) ⟨hx, hb, hml, hown, ht⟩ (c_X12_bale_x l dC dI H.size y gy cay ivy lvy fay lay hIy v7) (kV 1 ht m_1375 m_1376 m_1377 m_89 m_1378 rfl rfl hd_X12_bale_v ⟨Nat.le_of_ble_eq_true rfl, Nat.le_of_ble_eq_true rfl⟩) (vW hPy hKy hDy (rM_12 hKy hPy)) rfl rfl hl.1 rfl (lv_room (Nat.le_of_ble_eq_true rfl)) dL_law_239 ⟨Nat.le_of_ble_eq_true rfl, Nat.le_of_ble_eq_true rfl⟩) hS (fun q _ h => hFc q h) hFc (fun r8 u t H1 locs ht9 hvm hr8 hB hz1 hk1 hS => ?_)
  obtain ⟨n9, n10, n11, n12, hn10, hn11, hn12, xr8_0, xr8_1, hr8, rfl⟩ := hr8
  obtain ⟨hPy, hDy⟩ := hB
  rw [ht9] at hPy
  have hPx := P_kept hPx (la := AdX x gx) (lb := AdM y gy) wmX wmM hXY hk1
  generalize H1 = H at hPx hPy hS ⊢
  have hPy : va_P (dC, dI) classes (WM y gy cay (u2 ivy 12 1 n12) lvy (u2 (u2 (u2 fay 12 2 n9) 12 51 n10) 12 53 n11) lay) H := hPy
  have hDy : va_D A (WM y gy cay (u2 ivy 12 1 n12) lvy (u2 (u2 (u2 fay 12 2 n9) 12 51 n10) 12 53 n11) lay) := (show va_D _ (WM y gy cay (u2 ivy 12 1 n12) lvy (u2 (u2 (u2 fay 12 2 n9) 12 51 n10) 12 53 n11) lay) from hDy).weaken (fun _ _ _ h => hFc _ h)
  have q9x : ((r3.toInt = -100002 ∧ ¬ (1 ≤ (v2 : Int32).toInt ∧ (v2 : Int32).toInt ≤ 99999) ∧ n5.toInt = (ivx 0 7).toInt) ∨ (r3.toInt = -100004 ∧ (1 ≤ (v2 : Int32).toInt ∧ (v2 : Int32).toInt ≤ 99999) ∧ 10 ≤ (ivx 0 7).toInt ∧ n5.toInt = (ivx 0 7).toInt) ∨ ((1 ≤ (v2 : Int32).toInt ∧ (v2 : Int32).toInt ≤ 99999) ∧ (ivx 0 7).toInt < 10 ∧ r3.toInt = (ivx 0 7).toInt ∧ n5.toInt = (ivx 0 7).toInt + 1)) := xr3_0
  have q9y : ((r8.toInt = -100002 ∧ ¬ (1 ≤ (v7 : Int32).toInt ∧ (v7 : Int32).toInt ≤ 99999) ∧ n12.toInt = (ivy 12 1).toInt) ∨ (r8.toInt = -100004 ∧ (1 ≤ (v7 : Int32).toInt ∧ (v7 : Int32).toInt ≤ 99999) ∧ 10 ≤ (ivy 12 1).toInt ∧ n12.toInt = (ivy 12 1).toInt) ∨ ((1 ≤ (v7 : Int32).toInt ∧ (v7 : Int32).toInt ≤ 99999) ∧ (ivy 12 1).toInt < 10 ∧ r8.toInt = (ivy 12 1).toInt ∧ n12.toInt = (ivy 12 1).toInt + 1)) := xr8_0
  have hv9_0 : (v2 : Int32) = v7 := by rw [ev2, ev7, ev1, ev6]
  have hu9_0 := congrArg Int32.toInt hv9_0
  have hw9_now := congrArg Int32.toInt hq_now
  have hw9_bales := congrArg Int32.toInt hq_bales
  have hw9_skeins := congrArg Int32.toInt hq_skeins
  have hw9_rules := congrArg Int32.toInt hq_rules
  have hw9_text := congrArg Int32.toInt hq_text
  have hw9_place := congrArg Int32.toInt hq_place
  have hw9_papers := congrArg Int32.toInt hq_papers
  have hv9_0 : (v2 : Int32) = v7 := by rw [ev2, ev7, ev1, ev6]
  have hu9_0 := congrArg Int32.toInt hv9_0
  have hw9_now := congrArg Int32.toInt hq_now
  have hw9_bales := congrArg Int32.toInt hq_bales
  have hw9_skeins := congrArg Int32.toInt hq_skeins
  have hw9_rules := congrArg Int32.toInt hq_rules
  have hw9_text := congrArg Int32.toInt hq_text
  have hw9_place := congrArg Int32.toInt hq_place
  have hw9_papers := congrArg Int32.toInt hq_papers
  have y9x_0 : ((r3.toInt = -100002 ∧ ¬ (1 ≤ (v2 : Int32).toInt ∧ (v2 : Int32).toInt ≤ 99999) ∧ n5.toInt = (ivx 0 7).toInt) ∨ (r3.toInt = -100004 ∧ (1 ≤ (v2 : Int32).toInt ∧ (v2 : Int32).toInt ≤ 99999) ∧ 10 ≤ (ivx 0 7).toInt ∧ n5.toInt = (ivx 0 7).toInt) ∨ ((1 ≤ (v2 : Int32).toInt ∧ (v2 : Int32).toInt ≤ 99999) ∧ (ivx 0 7).toInt < 10 ∧ r3.toInt = (ivx 0 7).toInt ∧ n5.toInt = (ivx 0 7).toInt + 1)) := xr3_0
  have y9x_1 : ((r3.toInt < 0 ∧ ∀ j : Nat, n4 j = (fax 0 0) j) ∨ (0 ≤ r3.toInt ∧ 1 ≤ (v2 : Int32).toInt ∧ (v2 : Int32).toInt ≤ 99999 ∧ (∀ j : Nat, j ≠ ((ivx 0 7).toInt).toNat → n4 j = (fax 0 0) j) ∧ n4 ((ivx 0 7).toInt).toNat = (v2 : Int32))) := xr3_1
  have y9y_0 : ((r8.toInt = -100002 ∧ ¬ (1 ≤ (v7 : Int32).toInt ∧ (v7 : Int32).toInt ≤ 99999) ∧ n12.toInt = (ivy 12 1).toInt) ∨ (r8.toInt = -100004 ∧ (1 ≤ (v7 : Int32).toInt ∧ (v7 : Int32).toInt ≤ 99999) ∧ 10 ≤ (ivy 12 1).toInt ∧ n12.toInt = (ivy 12 1).toInt) ∨ ((1 ≤ (v7 : Int32).toInt ∧ (v7 : Int32).toInt ≤ 99999) ∧ (ivy 12 1).toInt < 10 ∧ r8.toInt = (ivy 12 1).toInt ∧ n12.toInt = (ivy 12 1).toInt + 1)) := xr8_0
  have y9y_1 : ((r8.toInt < 0 ∧ ∀ j : Nat, n9 j = (fay 12 2) j) ∨ (0 ≤ r8.toInt ∧ 1 ≤ (v7 : Int32).toInt ∧ (v7 : Int32).toInt ≤ 99999 ∧ (∀ j : Nat, j ≠ ((ivy 12 1).toInt).toNat → n9 j = (fay 12 2) j) ∧ n9 ((ivy 12 1).toInt).toNat = (v7 : Int32))) := xr8_1
  have hb7 : 0 ≤ (ivx 0 7).toInt ∧ (ivx 0 7).toInt ≤ 10 := hIx.1 0 7
  have hO9 : ((ivx 0 7).toInt).toNat = ((ivy 12 1).toInt).toNat := by rw [hq_bales]
  have hgn : ∀ j : Nat, n4 j = n9 j := by
    intro j
    rcases y9x_1 with ⟨q1, q2⟩ | ⟨q1, q2, q3, q4, q5⟩
    · rcases y9y_1 with ⟨p1, p2⟩ | ⟨p1, -⟩
      · rw [q2 j, p2 j]; exact hgr j
      · exfalso; omega
    · rcases y9y_1 with ⟨p1, -⟩ | ⟨p1, p2, p3, p4, p5⟩
      · exfalso; omega
      · by_cases hj : j = ((ivx 0 7).toInt).toNat
        · rw [hj, q5, hO9, p5]; exact hv9_0
        · rw [q4 j hj, p4 j (by rw [← hO9]; exact hj)]; exact hgr j
  have hgbn : ∀ j : Nat, (j : Int) < (n5 : Int32).toInt → 1 ≤ (n4 j).toInt ∧ (n4 j).toInt ≤ 99999 := by
    intro j hj
    rcases y9x_1 with ⟨q1, q2⟩ | ⟨q1, q2, q3, q4, q5⟩
    · rw [q2 j]; exact hgb j (by omega)
    · by_cases h9 : j = ((ivx 0 7).toInt).toNat
      · rw [h9, q5]; exact ⟨q2, q3⟩
      · rw [q4 j h9]; exact hgb j (by omega)
  refine lv_pop hx hb dL_law_242 rfl ?_
  refine lv_goto (tgt := 1509) hx hb dL_law_243 (by decide) ?_
  exact kk _ _ (u2 ivx 0 7 n5) lvx (u2 fax 0 0 n4) lax (u2 ivy 12 1 n12) lvy (u2 (u2 (u2 fay 12 2 n9) 12 51 n10) 12 53 n11) lay (IX_a (c := 0) (k := 0) (IX_i (c := 0) (k := 7) hIx hn5) (fun j => full_i _)) (IX_a (c := 12) (k := 53) (IX_a (c := 12) (k := 51) (IX_a (c := 12) (k := 2) (IX_i (c := 12) (k := 1) hIy hn12) (fun j => full_i _)) hn10) hn11) hJC hJR hJN hJO hq_now (show (n5 : Int32) = n12 from Int32.toInt_inj.mp (by omega)) hq_skeins hq_rules hq_text hq_place hq_papers hrs hls hwd htx hbk hgn hgbn hpa hdr hPx hDx hPy hDy hS
set_option maxHeartbeats 4000000 in
set_option maxRecDepth 100000 in
theorem law_2 {p : Program} {e : Env} {s : State} {m : MethodId} {below : List Frame} {meth : Method} {c : Code} (l : Launch) {b L : Nat} {xs : Nat → Int32} (hL : L ≤ 4096) (C0 : lw_At p s m meth c b L xs) {dC : Nat → ClassId} {dI : Nat → Nat → Nat} {A : Nat → Prop} (hA : ∀ q : Nat, s.heap.size ≤ q → A q) (hbA : ¬ A b) (hAs : ∀ q : Nat, A q → s.heap.size ≤ q) {x y : Nat} {gx gy : Nat → Nat → Nat} {cax cay : Nat → Nat → ClassId} {ak av : Nat → Nat} (hKx : va_K (dC, dI) classes (TX cax) s) (hKy : va_K (dC, dI) classes (TM cay) s) (hXY : ∀ a ∈ AdX x gx, ∀ b ∈ AdM y gy, a ≠ b) (hZ : zC ak av A s s.heap) {H : Heap} {locs : List Loc} {ivx : Nat → Nat → Int32} {lvx : Nat → Nat → Int64} {fax : Nat → Nat → Nat → Int32} {lax : Nat → Nat → Nat → Int64} {ivy : Nat → Nat → Int32} {lvy : Nat → Nat → Int64} {fay : Nat → Nat → Nat → Int32} {lay : Nat → Nat → Nat → Int64} (hIx : IX ivx fax) (hIy : IX ivy fay) (hJC : JCf (ivy 12 23).toInt (fay 12 25) (fay 12 26) (fay 12 27) (fay 12 28)) (hJR : JRf (ivy 12 3).toInt (fay 12 7)) (hJN : JNf (ivy 12 3).toInt (fay 12 4) (fay 12 5)) (hJO : ((ivy 12 20).toInt = -1 ∧ (ivy 12 21).toInt = -1 ∧ (ivy 12 22).toInt = -1)) (hq_now : ivx 11 10 = ivy 12 0) (hq_bales : ivx 0 7 = ivy 12 1) (hq_skeins : ivx 10 1 = ivy 12 3) (hq_rules : ivx 1 7 = ivy 12 23) (hq_text : ivx 8 2 = ivy 12 33) (hq_place : ivx 8 3 = ivy 12 36) (hq_papers : ivx 6 7 = ivy 12 67) (hrs : (∀ s : Nat, (s : Int) < (ivy 12 3).toInt → fax 10 0 (9 * s + 0) = fay 12 4 s ∧ fax 10 0 (9 * s + 1) = fay 12 5 s ∧ fax 10 0 (9 * s + 2) = fay 12 6 s ∧ fax 10 0 (9 * s + 3) = fay 12 7 s ∧ fax 10 0 (9 * s + 4) = fay 12 8 s ∧ fax 10 0 (9 * s + 5) = fay 12 9 s ∧ fax 10 0 (9 * s + 6) = fay 12 10 s ∧ fax 10 0 (9 * s + 7) = fay 12 11 s ∧ fax 10 0 (9 * s + 8) = fay 12 12 s)) (hls : (∀ j : Nat, -1 ≤ (fay 12 12 j).toInt)) (hwd : (∀ s : Nat, (s : Int) < (ivy 12 3).toInt → (100 ≤ (fay 12 7 s).toInt ∧ (fay 12 7 s).toInt ≤ 9999) ∧ (50 ≤ (fay 12 8 s).toInt ∧ (fay 12 8 s).toInt ≤ 9999))) (htx : (∀ j : Nat, (fax 8 1 j).toInt = sg (fay 12 32 j).toInt ∧ 0 ≤ (fay 12 32 j).toInt)) (hbk : BkE (ivy 12 23).toInt (fax 1 0) (fax 1 1) (fax 1 2) (fax 1 3) (fax 1 4) (fax 1 5) (fay 12 24) (fay 12 25) (fay 12 26) (fay 12 27) (fay 12 28) (fay 12 29) (fay 12 30) (fay 12 31)) (hgr : (∀ j : Nat, fax 0 0 j = fay 12 2 j)) (hgb : (∀ j : Nat, (j : Int) < (ivx 0 7).toInt → 1 ≤ (fax 0 0 j).toInt ∧ (fax 0 0 j).toInt ≤ 99999)) (hpa : PaE (ivy 12 67).toInt (fax 6 0) (fax 6 1) (fax 6 2) (fax 6 3) (fax 6 4) (fax 6 5) (fay 12 68) (fay 12 69) (lay 12 70) (fay 12 71) (fay 12 72) (fay 12 73)) (hdr : (∀ s : Nat, (s : Int) < (ivy 12 3).toInt → (fay 12 8 s).toInt ≤ (fay 12 7 s).toInt)) (hPx : va_P (dC, dI) classes (WX x gx cax ivx lvx fax lax) H) (hDx : va_D A (WX x gx cax ivx lvx fax lax)) (hPy : va_P (dC, dI) classes (WM y gy cay ivy lvy fay lay) H) (hDy : va_D A (WM y gy cay ivy lvy fay lay)) (hS : va_S A s.heap H locs) {i : Int32} {ls : Array Slot} (hl : lv_has ls 4 [(3, .int i), (2, .ref y), (1, .ref x), (0, .ref b)]) (hi : 0 ≤ i.toInt ∧ i.toInt ≤ 4088) (hi8 : i.toInt + 8 ≤ (L : Int)) (kk : ∀ (H : Heap) (locs : List Loc) (ivx : Nat → Nat → Int32) (lvx : Nat → Nat → Int64) (fax : Nat → Nat → Nat → Int32) (lax : Nat → Nat → Nat → Int64) (ivy : Nat → Nat → Int32) (lvy : Nat → Nat → Int64) (fay : Nat → Nat → Nat → Int32) (lay : Nat → Nat → Nat → Int64), IX ivx fax → IX ivy fay → JCf (ivy 12 23).toInt (fay 12 25) (fay 12 26) (fay 12 27) (fay 12 28) → JRf (ivy 12 3).toInt (fay 12 7) → JNf (ivy 12 3).toInt (fay 12 4) (fay 12 5) → ((ivy 12 20).toInt = -1 ∧ (ivy 12 21).toInt = -1 ∧ (ivy 12 22).toInt = -1) → ivx 11 10 = ivy 12 0 → ivx 0 7 = ivy 12 1 → ivx 10 1 = ivy 12 3 → ivx 1 7 = ivy 12 23 → ivx 8 2 = ivy 12 33 → ivx 8 3 = ivy 12 36 → ivx 6 7 = ivy 12 67 → (∀ s : Nat, (s : Int) < (ivy 12 3).toInt → fax 10 0 (9 * s + 0) = fay 12 4 s ∧ fax 10 0 (9 * s + 1) = fay 12 5 s ∧ fax 10 0 (9 * s + 2) = fay 12 6 s ∧ fax 10 0 (9 * s + 3) = fay 12 7 s ∧ fax 10 0 (9 * s + 4) = fay 12 8 s ∧ fax 10 0 (9 * s + 5) = fay 12 9 s ∧ fax 10 0 (9 * s + 6) = fay 12 10 s ∧ fax 10 0 (9 * s + 7) = fay 12 11 s ∧ fax 10 0 (9 * s + 8) = fay 12 12 s) → (∀ j : Nat, -1 ≤ (fay 12 12 j).toInt) → (∀ s : Nat, (s : Int) < (ivy 12 3).toInt → (100 ≤ (fay 12 7 s).toInt ∧ (fay 12 7 s).toInt ≤ 9999) ∧ (50 ≤ (fay 12 8 s).toInt ∧ (fay 12 8 s).toInt ≤ 9999)) → (∀ j : Nat, (fax 8 1 j).toInt = sg (fay 12 32 j).toInt ∧ 0 ≤ (fay 12 32 j).toInt) → BkE (ivy 12 23).toInt (fax 1 0) (fax 1 1) (fax 1 2) (fax 1 3) (fax 1 4) (fax 1 5) (fay 12 24) (fay 12 25) (fay 12 26) (fay 12 27) (fay 12 28) (fay 12 29) (fay 12 30) (fay 12 31) → (∀ j : Nat, fax 0 0 j = fay 12 2 j) → (∀ j : Nat, (j : Int) < (ivx 0 7).toInt → 1 ≤ (fax 0 0 j).toInt ∧ (fax 0 0 j).toInt ≤ 99999) → PaE (ivy 12 67).toInt (fax 6 0) (fax 6 1) (fax 6 2) (fax 6 3) (fax 6 4) (fax 6 5) (fay 12 68) (fay 12 69) (lay 12 70) (fay 12 71) (fay 12 72) (fay 12 73) → (∀ s : Nat, (s : Int) < (ivy 12 3).toInt → (fay 12 8 s).toInt ≤ (fay 12 7 s).toInt) → va_P (dC, dI) classes (WX x gx cax ivx lvx fax lax) H → va_D A (WX x gx cax ivx lvx fax lax) → va_P (dC, dI) classes (WM y gy cay ivy lvy fay lay) H → va_D A (WM y gy cay ivy lvy fay lay) → va_S A s.heap H locs → W p l e room_1 s m #[Value.ref b] below meth c H locs 98 5431 (lw_Z below #[Value.ref b] s) (F0 m 1509 ls [])) : W p l e room_1 s m #[Value.ref b] below meth c H locs 98 5431 (lw_Z below #[Value.ref b] s) (F0 m 246 ls []) := by
  obtain ⟨hx, hb, hr, hml, hown, hts, hX, hbl, hlocks, hgv⟩ := id C0
  have ht := tb_of hts
  have hJD := hwd
  have hw8 := congrArg Int32.toInt hq_skeins
  have hJW : ∀ s : Nat, (s : Int) < (ivx 10 1).toInt → (100 ≤ (fax 10 0 (9 * s + 3)).toInt ∧ (fax 10 0 (9 * s + 3)).toInt ≤ 9999) ∧ (50 ≤ (fax 10 0 (9 * s + 4)).toInt ∧ (fax 10 0 (9 * s + 4)).toInt ≤ 9999) := fun s hs => by rw [(hrs s (by omega)).2.2.2.1, (hrs s (by omega)).2.2.2.2.1]; exact hwd s (by omega)
  have hw8r := congrArg Int32.toInt hq_rules
  have hJB : ∀ j : Nat, (j : Int) < (ivx 1 7).toInt → 0 ≤ (fax 1 0 j).toInt := fun j hj => (hbk j (by omega)).2.2.1
  have hJK : ∀ k j : Nat, (k : Int) < (ivy 12 23).toInt → 12 * k ≤ j → (j : Int) < 12 * (k : Int) + (fay 12 25 k).toInt → (fay 12 26 j).toInt = 3 → 0 ≤ (fay 12 28 j).toInt ∧ (fay 12 28 j).toInt < (k : Int) := bk_K hbk
  have hw8b := congrArg Int32.toInt hq_bales
  have hJF : ∀ a d v : Int, 0 ≤ a → a ≤ 5 → FoX (ivx 1 7).toInt (fax 1 0) (fax 1 1) (fax 1 2) (fax 1 3) a d v → fLo a ≤ v ∧ v ≤ fHi a := fun a d v h1 h2 x => by rw [hq_rules] at x; exact FoX_b hbk ⟨h1, h2⟩ x
  have hJH : ∀ a d v : Int, 0 ≤ a → a ≤ 5 → FoY (ivy 12 23).toInt (fay 12 24) (fay 12 25) (fay 12 26) (fay 12 27) (fay 12 28) a d v → fLo a ≤ v ∧ v ≤ fHi a := fun a d v h1 h2 x => FoY_b hbk ⟨h1, h2⟩ x
  have hJG := hgb
  have hJI : ∀ j : Nat, (j : Int) < (ivy 12 1).toInt → 1 ≤ (fay 12 2 j).toInt ∧ (fay 12 2 j).toInt ≤ 99999 := fun j hj => by rw [← hgr j]; exact hgb j (by omega)
  have hJL : ∀ b l : Int32, cn0 (fun s => fax 10 0 (9 * s + 0)) (fun s => fax 10 0 (9 * s + 1)) b l (ivx 10 1).toInt.toNat ≤ 12 := fun b l => by rw [hq_skeins, cn0_congr (ob := fay 12 4) (ol := fay 12 5) _ (fun j hj => ⟨(hrs j (by omega)).1, (hrs j (by omega)).2.1⟩)]; exact hJN b l
  have hw8p := congrArg Int32.toInt hq_papers
  have hJQ : ∀ p : Nat, (p : Int) < (ivy 12 67).toInt → 0 ≤ (lay 12 70 p).toInt ∧ ((fay 12 68 p).toInt = 0 → (lay 12 70 p).toInt ≤ 129998) ∧ (lay 12 70 p).toInt ≤ 129868002 ∧ -1 ≤ (fay 12 71 p).toInt ∧ (fay 12 71 p).toInt < (p : Int) := fun p hp => ⟨(hpa p hp).2.2.1, (hpa p hp).2.2.2.1, (hpa p hp).2.2.2.2.1, (hpa p hp).2.2.2.2.2.1, (hpa p hp).2.2.2.2.2.2.1⟩
  have hJP : ∀ p : Nat, (p : Int) < (ivx 6 7).toInt → 0 ≤ (fax 6 2 p).toInt ∧ ((fax 6 0 p).toInt = 0 → (fax 6 2 p).toInt ≤ 129998) ∧ (fax 6 2 p).toInt ≤ 129868002 ∧ -1 ≤ (fax 6 3 p).toInt ∧ (fax 6 3 p).toInt < (p : Int) := fun p hp => by rw [(hpa p (by omega)).1.1, (hpa p (by omega)).1.2.2.1, (hpa p (by omega)).1.2.2.2.1]; exact hJQ p (by omega)
  have hJS : ∀ s : Nat, (s : Int) < (ivx 10 1).toInt → (fax 10 0 (9 * s + 4)).toInt ≤ (fax 10 0 (9 * s + 3)).toInt := fun s hs => by rw [(hrs s (by omega)).2.2.2.1, (hrs s (by omega)).2.2.2.2.1]; exact hdr s (by omega)
  have hJT : ∀ j : Nat, 0 ≤ (fay 12 32 j).toInt := fun j => (htx j).2
  refine lv_aload_n hx hb dL_law_246 rfl (lv_at hl 2 rfl) ?_
  refine aw_iconst (v := 1) hx hb hX hbl hbA hS hl hi hi8 (by decide) ⟨by decide, by decide⟩ dL_law_247 dL_law_248 dL_law_249 dL_law_250 dL_law_251 (fun v1 ev1 v2 ev2 => ?_)
  refine aw_iconst (v := 2) hx hb hX hbl hbA hS hl hi hi8 (by decide) ⟨by decide, by decide⟩ dL_law_252 dL_law_253 dL_law_254 dL_law_255 dL_law_256 (fun v3 ev3 v4 ev4 => ?_)
  refine aw_iconst (v := 3) hx hb hX hbl hbA hS hl hi hi8 (by decide) ⟨by decide, by decide⟩ dL_law_257 dL_law_258 dL_law_259 dL_law_260 dL_law_261 (fun v5 ev5 v6 ev6 => ?_)
  refine aw_iconst (v := 4) hx hb hX hbl hbA hS hl hi hi8 (by decide) ⟨by decide, by decide⟩ dL_law_262 dL_law_263 dL_law_264 dL_law_265 dL_law_266 (fun v7 ev7 v8 ev8 => ?_)
  refine aw_iconst (v := 5) hx hb hX hbl hbA hS hl hi hi8 (by decide) ⟨by decide, by decide⟩ dL_law_267 dL_law_268 dL_law_269 dL_law_270 dL_law_271 (fun v9 ev9 v10 ev10 => ?_)
  refine aw_bipush (v := 6) hx hb hX hbl hbA hS hl hi hi8 (by decide) ⟨by decide, by decide⟩ dL_law_272 dL_law_273 dL_law_274 dL_law_276 dL_law_277 (fun v11 ev11 v12 ev12 => ?_)
  refine aw_bipush (v := 7) hx hb hX hbl hbA hS hl hi hi8 (by decide) ⟨by decide, by decide⟩ dL_law_278 dL_law_279 dL_law_280 dL_law_282 dL_law_283 (fun v13 ev13 v14 ev14 => ?_)
  have hFc := free_all hDx hS hA
  refine va_calli (va_runV (As := [.int v2, .int v4, .int v6, .int v8, .int v10, .int v12, .int v14]) (rest := []) ⟨hx, hb, hml, hown, ht⟩ (c_X11_skein_x l dC dI H.size x gx cax ivx lvx fax lax hIx v2 v4 v6 v8 v10 v12 v14) (kV 7 ht m_468 m_469 m_470 m_77 m_471 rfl rfl hd_X11_skein_v ⟨Nat.le_of_ble_eq_true rfl, Nat.le_of_ble_eq_true rfl⟩) (vW hPx hKx hDx (rX_11 hKx hPx)) rfl rfl hl.1 rfl (lv_room (Nat.le_of_ble_eq_true rfl)) dL_law_284 ⟨Nat.le_of_ble_eq_true rfl, Nat.le_of_ble_eq_true rfl⟩) hS (fun q _ h => hFc q h) hFc (fun r15 u t H1 locs ht9 hvm hr15 hB hz1 hk1 hS => ?_)
  obtain ⟨n16, n17, hn16, hn17, xr15_0, xr15_1, xr15_2, hr15, rfl⟩ := hr15
  obtain ⟨hPx, hDx⟩ := hB
  rw [ht9] at hPx
  have hPy := P_kept hPy (la := AdM y gy) (lb := AdX x gx) wmM wmX (fun a ha b hb => (hXY b hb a ha).symm) hk1
  generalize H1 = H at hPx hPy hS ⊢
  have hPx : va_P (dC, dI) classes (WX x gx cax (u2 ivx 10 1 n17) lvx (u2 fax 10 0 n16) lax) H := hPx
  have hDx : va_D A (WX x gx cax (u2 ivx 10 1 n17) lvx (u2 fax 10 0 n16) lax) := (show va_D _ (WX x gx cax (u2 ivx 10 1 n17) lvx (u2 fax 10 0 n16) lax) from hDx).weaken (fun _ _ _ h => hFc _ h)
  refine lv_pop hx hb dL_law_287 rfl ?_
  refine lv_aload_n hx hb dL_law_288 rfl (lv_at hl 1 rfl) ?_
  refine aw_iconst (v := 1) hx hb hX hbl hbA hS hl hi hi8 (by decide) ⟨by decide, by decide⟩ dL_law_289 dL_law_290 dL_law_291 dL_law_292 dL_law_293 (fun v18 ev18 v19 ev19 => ?_)
  refine aw_iconst (v := 2) hx hb hX hbl hbA hS hl hi hi8 (by decide) ⟨by decide, by decide⟩ dL_law_294 dL_law_295 dL_law_296 dL_law_297 dL_law_298 (fun v20 ev20 v21 ev21 => ?_)
  refine aw_iconst (v := 3) hx hb hX hbl hbA hS hl hi hi8 (by decide) ⟨by decide, by decide⟩ dL_law_299 dL_law_300 dL_law_301 dL_law_302 dL_law_303 (fun v22 ev22 v23 ev23 => ?_)
  refine aw_iconst (v := 4) hx hb hX hbl hbA hS hl hi hi8 (by decide) ⟨by decide, by decide⟩ dL_law_304 dL_law_305 dL_law_306 dL_law_307 dL_law_308 (fun v24 ev24 v25 ev25 => ?_)
  refine aw_iconst (v := 5) hx hb hX hbl hbA hS hl hi hi8 (by decide) ⟨by decide, by decide⟩ dL_law_309 dL_law_310 dL_law_311 dL_law_312 dL_law_313 (fun v26 ev26 v27 ev27 => ?_)
  refine aw_bipush (v := 6) hx hb hX hbl hbA hS hl hi hi8 (by decide) ⟨by decide, by decide⟩ dL_law_314 dL_law_315 dL_law_316 dL_law_318 dL_law_319 (fun v28 ev28 v29 ev29 => ?_)
  refine aw_bipush (v := 7) hx hb hX hbl hbA hS hl hi hi8 (by decide) ⟨by decide, by decide⟩ dL_law_320 dL_law_321 dL_law_322 dL_law_324 dL_law_325 (fun v30 ev30 v31 ev31 => ?_)
  have hFc := free_all hDy hS hA
  refine va_calli (va_runV (As := [.int v19, .int v21, .int v23, .int v25, .int v27, .int v29, .int v31]) (rest := []) ⟨hx, hb, hml, hown, ht⟩ (c_X12_skein_x l dC dI H.size y gy cay ivy lvy fay lay hIy v19 v21 v23 v25 v27 v29 v31 hJR hJN) (kV 7 ht m_1381 m_1382 m_1383 m_89 m_1384 rfl rfl hd_X12_skein_v ⟨Nat.le_of_ble_eq_true rfl, Nat.le_of_ble_eq_true rfl⟩) (vW hPy hKy hDy (rM_12 hKy hPy)) rfl rfl hl.1 rfl (lv_room (Nat.le_of_ble_eq_true rfl)) dL_law_326 ⟨Nat.le_of_ble_eq_true rfl, Nat.le_of_ble_eq_true rfl⟩) hS (fun q _ h => hFc q h) hFc (fun r32 u t H1 locs ht9 hvm hr32 hB hz1 hk1 hS => ?_)
  obtain ⟨n33, n34, n35, n36, n37, n38, n39, n40, n41, n42, hn36, hn38, hn39, hn42, xr32_0, xr32_1, xr32_2, xr32_3, xr32_4, xr32_5, xr32_6, xr32_7, xr32_8, xr32_9, xr32_10, xr32_11, xr32_12, hr32, rfl⟩ := hr32
  obtain ⟨hPy, hDy⟩ := hB
  rw [ht9] at hPy
  have hPx := P_kept hPx (la := AdX x gx) (lb := AdM y gy) wmX wmM hXY hk1
  generalize H1 = H at hPx hPy hS ⊢
  have hPy : va_P (dC, dI) classes (WM y gy cay (u2 ivy 12 3 n42) lvy (u2 (u2 (u2 (u2 (u2 (u2 (u2 (u2 (u2 fay 12 4 n33) 12 5 n34) 12 6 n35) 12 7 n36) 12 8 n37) 12 9 n38) 12 10 n39) 12 11 n40) 12 12 n41) lay) H := hPy
  have hDy : va_D A (WM y gy cay (u2 ivy 12 3 n42) lvy (u2 (u2 (u2 (u2 (u2 (u2 (u2 (u2 (u2 fay 12 4 n33) 12 5 n34) 12 6 n35) 12 7 n36) 12 8 n37) 12 9 n38) 12 10 n39) 12 11 n40) 12 12 n41) lay) := (show va_D _ (WM y gy cay (u2 ivy 12 3 n42) lvy (u2 (u2 (u2 (u2 (u2 (u2 (u2 (u2 (u2 fay 12 4 n33) 12 5 n34) 12 6 n35) 12 7 n36) 12 8 n37) 12 9 n38) 12 10 n39) 12 11 n40) 12 12 n41) lay) from hDy).weaken (fun _ _ _ h => hFc _ h)
  have hv9_0 : (v2 : Int32) = v19 := by rw [ev2, ev19, ev1, ev18]
  have hu9_0 := congrArg Int32.toInt hv9_0
  have hv9_1 : (v4 : Int32) = v21 := by rw [ev4, ev21, ev3, ev20]
  have hu9_1 := congrArg Int32.toInt hv9_1
  have hv9_2 : (v6 : Int32) = v23 := by rw [ev6, ev23, ev5, ev22]
  have hu9_2 := congrArg Int32.toInt hv9_2
  have hv9_3 : (v8 : Int32) = v25 := by rw [ev8, ev25, ev7, ev24]
  have hu9_3 := congrArg Int32.toInt hv9_3
  have hv9_4 : (v10 : Int32) = v27 := by rw [ev10, ev27, ev9, ev26]
  have hu9_4 := congrArg Int32.toInt hv9_4
  have hv9_5 : (v12 : Int32) = v29 := by rw [ev12, ev29, ev11, ev28]
  have hu9_5 := congrArg Int32.toInt hv9_5
  have hv9_6 : (v14 : Int32) = v31 := by rw [ev14, ev31, ev13, ev30]
  have hu9_6 := congrArg Int32.toInt hv9_6
  have hw9_now := congrArg Int32.toInt hq_now
  have hw9_bales := congrArg Int32.toInt hq_bales
  have hw9_skeins := congrArg Int32.toInt hq_skeins
  have hw9_rules := congrArg Int32.toInt hq_rules
  have hw9_text := congrArg Int32.toInt hq_text
  have hw9_place := congrArg Int32.toInt hq_place
  have hw9_papers := congrArg Int32.toInt hq_papers
  have y9x_0 : ((r15.toInt = -100001 ∧ ¬ (0 ≤ (v2 : Int32).toInt ∧ (v2 : Int32).toInt < (ivx 0 7).toInt) ∧ n17.toInt = (ivx 10 1).toInt) ∨ (r15.toInt = -100002 ∧ 0 ≤ (v2 : Int32).toInt ∧ (v2 : Int32).toInt < (ivx 0 7).toInt ∧ ¬ (0 ≤ (v4 : Int32).toInt ∧ (v4 : Int32).toInt ≤ 2 ∧ 0 ≤ (v6 : Int32).toInt ∧ (v6 : Int32).toInt ≤ 3 ∧ 100 ≤ (v8 : Int32).toInt ∧ (v8 : Int32).toInt ≤ 9999 ∧ 50 ≤ (v10 : Int32).toInt ∧ (v10 : Int32).toInt ≤ (v8 : Int32).toInt ∧ 0 ≤ (v12 : Int32).toInt ∧ (v12 : Int32).toInt ≤ 3 ∧ 0 ≤ (v14 : Int32).toInt ∧ (v14 : Int32).toInt ≤ 7) ∧ n17.toInt = (ivx 10 1).toInt) ∨ (r15.toInt = -100004 ∧ 0 ≤ (v2 : Int32).toInt ∧ (v2 : Int32).toInt < (ivx 0 7).toInt ∧ 0 ≤ (v4 : Int32).toInt ∧ (v4 : Int32).toInt ≤ 2 ∧ 0 ≤ (v6 : Int32).toInt ∧ (v6 : Int32).toInt ≤ 3 ∧ 100 ≤ (v8 : Int32).toInt ∧ (v8 : Int32).toInt ≤ 9999 ∧ 50 ≤ (v10 : Int32).toInt ∧ (v10 : Int32).toInt ≤ (v8 : Int32).toInt ∧ 0 ≤ (v12 : Int32).toInt ∧ (v12 : Int32).toInt ≤ 3 ∧ 0 ≤ (v14 : Int32).toInt ∧ (v14 : Int32).toInt ≤ 7 ∧ (60 ≤ (ivx 10 1).toInt ∨ 12 ≤ ((cn0 (fun s => (fax 10 0) (9 * s + 0)) (fun s => (fax 10 0) (9 * s + 1)) (v2 : Int32) (v4 : Int32) ((ivx 10 1).toInt).toNat : Nat) : Int)) ∧ n17.toInt = (ivx 10 1).toInt) ∨ (0 ≤ (v2 : Int32).toInt ∧ (v2 : Int32).toInt < (ivx 0 7).toInt ∧ 0 ≤ (v4 : Int32).toInt ∧ (v4 : Int32).toInt ≤ 2 ∧ 0 ≤ (v6 : Int32).toInt ∧ (v6 : Int32).toInt ≤ 3 ∧ 100 ≤ (v8 : Int32).toInt ∧ (v8 : Int32).toInt ≤ 9999 ∧ 50 ≤ (v10 : Int32).toInt ∧ (v10 : Int32).toInt ≤ (v8 : Int32).toInt ∧ 0 ≤ (v12 : Int32).toInt ∧ (v12 : Int32).toInt ≤ 3 ∧ 0 ≤ (v14 : Int32).toInt ∧ (v14 : Int32).toInt ≤ 7 ∧ (ivx 10 1).toInt < 60 ∧ ((cn0 (fun s => (fax 10 0) (9 * s + 0)) (fun s => (fax 10 0) (9 * s + 1)) (v2 : Int32) (v4 : Int32) ((ivx 10 1).toInt).toNat : Nat) : Int) < 12 ∧ r15.toInt = (ivx 10 1).toInt ∧ n17.toInt = (ivx 10 1).toInt + 1)) := xr15_0
  have y9x_1 : ∀ j : Nat, (j < (9 * ((ivx 10 1).toInt).toNat + 0) ∨ (9 * ((ivx 10 1).toInt).toNat + 9) ≤ j) → n16 j = (fax 10 0) j := xr15_1
  have y9x_2 : ((r15.toInt < 0 ∧ ∀ j : Nat, n16 j = (fax 10 0) j) ∨ (n16 (9 * ((ivx 10 1).toInt).toNat + 0) = (v2 : Int32) ∧ n16 (9 * ((ivx 10 1).toInt).toNat + 1) = (v4 : Int32) ∧ n16 (9 * ((ivx 10 1).toInt).toNat + 2) = (v6 : Int32) ∧ n16 (9 * ((ivx 10 1).toInt).toNat + 3) = (v8 : Int32) ∧ n16 (9 * ((ivx 10 1).toInt).toNat + 4) = (v10 : Int32) ∧ n16 (9 * ((ivx 10 1).toInt).toNat + 5) = (v12 : Int32) ∧ n16 (9 * ((ivx 10 1).toInt).toNat + 6) = (v14 : Int32) ∧ n16 (9 * ((ivx 10 1).toInt).toNat + 7) = (ivx 11 10) ∧ n16 (9 * ((ivx 10 1).toInt).toNat + 8) = (-1))) := xr15_2
  have y9y_0 : JRf n42.toInt n36 := xr32_0
  have y9y_1 : JNf n42.toInt n33 n34 := xr32_1
  have y9y_2 : ((r32.toInt = -100001 ∧ ¬ (0 ≤ (v19 : Int32).toInt ∧ (v19 : Int32).toInt < (ivy 12 1).toInt) ∧ n42.toInt = (ivy 12 3).toInt) ∨ (r32.toInt = -100002 ∧ 0 ≤ (v19 : Int32).toInt ∧ (v19 : Int32).toInt < (ivy 12 1).toInt ∧ ¬ (0 ≤ (v21 : Int32).toInt ∧ (v21 : Int32).toInt ≤ 2 ∧ 0 ≤ (v23 : Int32).toInt ∧ (v23 : Int32).toInt ≤ 3 ∧ 100 ≤ (v25 : Int32).toInt ∧ (v25 : Int32).toInt ≤ 9999 ∧ 50 ≤ (v27 : Int32).toInt ∧ (v27 : Int32).toInt ≤ (v25 : Int32).toInt ∧ 0 ≤ (v29 : Int32).toInt ∧ (v29 : Int32).toInt ≤ 3 ∧ 0 ≤ (v31 : Int32).toInt ∧ (v31 : Int32).toInt ≤ 7) ∧ n42.toInt = (ivy 12 3).toInt) ∨ (r32.toInt = -100004 ∧ 0 ≤ (v19 : Int32).toInt ∧ (v19 : Int32).toInt < (ivy 12 1).toInt ∧ 0 ≤ (v21 : Int32).toInt ∧ (v21 : Int32).toInt ≤ 2 ∧ 0 ≤ (v23 : Int32).toInt ∧ (v23 : Int32).toInt ≤ 3 ∧ 100 ≤ (v25 : Int32).toInt ∧ (v25 : Int32).toInt ≤ 9999 ∧ 50 ≤ (v27 : Int32).toInt ∧ (v27 : Int32).toInt ≤ (v25 : Int32).toInt ∧ 0 ≤ (v29 : Int32).toInt ∧ (v29 : Int32).toInt ≤ 3 ∧ 0 ≤ (v31 : Int32).toInt ∧ (v31 : Int32).toInt ≤ 7 ∧ (60 ≤ (ivy 12 3).toInt ∨ 12 ≤ ((cn0 (fay 12 4) (fay 12 5) (v19 : Int32) (v21 : Int32) ((ivy 12 3).toInt).toNat : Nat) : Int)) ∧ n42.toInt = (ivy 12 3).toInt) ∨ (0 ≤ (v19 : Int32).toInt ∧ (v19 : Int32).toInt < (ivy 12 1).toInt ∧ 0 ≤ (v21 : Int32).toInt ∧ (v21 : Int32).toInt ≤ 2 ∧ 0 ≤ (v23 : Int32).toInt ∧ (v23 : Int32).toInt ≤ 3 ∧ 100 ≤ (v25 : Int32).toInt ∧ (v25 : Int32).toInt ≤ 9999 ∧ 50 ≤ (v27 : Int32).toInt ∧ (v27 : Int32).toInt ≤ (v25 : Int32).toInt ∧ 0 ≤ (v29 : Int32).toInt ∧ (v29 : Int32).toInt ≤ 3 ∧ 0 ≤ (v31 : Int32).toInt ∧ (v31 : Int32).toInt ≤ 7 ∧ (ivy 12 3).toInt < 60 ∧ ((cn0 (fay 12 4) (fay 12 5) (v19 : Int32) (v21 : Int32) ((ivy 12 3).toInt).toNat : Nat) : Int) < 12 ∧ r32.toInt = (ivy 12 3).toInt ∧ n42.toInt = (ivy 12 3).toInt + 1)) := xr32_2
  have y9y_3 : ∀ j : Nat, j ≠ ((ivy 12 3).toInt).toNat → n33 j = (fay 12 4) j := xr32_3
  have y9y_4 : ∀ j : Nat, j ≠ ((ivy 12 3).toInt).toNat → n34 j = (fay 12 5) j := xr32_4
  have y9y_5 : ∀ j : Nat, j ≠ ((ivy 12 3).toInt).toNat → n35 j = (fay 12 6) j := xr32_5
  have y9y_6 : ∀ j : Nat, j ≠ ((ivy 12 3).toInt).toNat → n36 j = (fay 12 7) j := xr32_6
  have y9y_7 : ∀ j : Nat, j ≠ ((ivy 12 3).toInt).toNat → n37 j = (fay 12 8) j := xr32_7
  have y9y_8 : ∀ j : Nat, j ≠ ((ivy 12 3).toInt).toNat → n38 j = (fay 12 9) j := xr32_8
  have y9y_9 : ∀ j : Nat, j ≠ ((ivy 12 3).toInt).toNat → n39 j = (fay 12 10) j := xr32_9
  have y9y_10 : ∀ j : Nat, j ≠ ((ivy 12 3).toInt).toNat → n40 j = (fay 12 11) j := xr32_10
  have y9y_11 : ∀ j : Nat, j ≠ ((ivy 12 3).toInt).toNat → n41 j = (fay 12 12) j := xr32_11
  have y9y_12 : ((r32.toInt < 0 ∧ ∀ j : Nat, n33 j = (fay 12 4) j ∧ n34 j = (fay 12 5) j ∧ n35 j = (fay 12 6) j ∧ n36 j = (fay 12 7) j ∧ n37 j = (fay 12 8) j ∧ n38 j = (fay 12 9) j ∧ n39 j = (fay 12 10) j ∧ n40 j = (fay 12 11) j ∧ n41 j = (fay 12 12) j) ∨ (n33 ((ivy 12 3).toInt).toNat = (v19 : Int32) ∧ n34 ((ivy 12 3).toInt).toNat = (v21 : Int32) ∧ n35 ((ivy 12 3).toInt).toNat = (v23 : Int32) ∧ n36 ((ivy 12 3).toInt).toNat = (v25 : Int32) ∧ n37 ((ivy 12 3).toInt).toNat = (v27 : Int32) ∧ n38 ((ivy 12 3).toInt).toNat = (v29 : Int32) ∧ n39 ((ivy 12 3).toInt).toNat = (v31 : Int32) ∧ n40 ((ivy 12 3).toInt).toNat = (ivy 12 0) ∧ n41 ((ivy 12 3).toInt).toNat = (-1))) := xr32_12
  have hc9 : cn0 (fun s => fax 10 0 (9 * s + 0)) (fun s => fax 10 0 (9 * s + 1)) v2 v4 ((ivx 10 1).toInt).toNat = cn0 (fay 12 4) (fay 12 5) v19 v21 ((ivy 12 3).toInt).toNat := by
    rw [hv9_0, hv9_1, hq_skeins]; exact cn0_congr _ (fun j hj => ⟨(hrs j (by omega)).1, (hrs j (by omega)).2.1⟩)
  have hj9 := hJN v19 v21
  have hr8 : (r15 : Int32).toInt = (r32 : Int32).toInt := by omega
  have hrn : ∀ s : Nat, (s : Int) < (n42 : Int32).toInt → n16 (9 * s + 0) = n33 s ∧ n16 (9 * s + 1) = n34 s ∧ n16 (9 * s + 2) = n35 s ∧ n16 (9 * s + 3) = n36 s ∧ n16 (9 * s + 4) = n37 s ∧ n16 (9 * s + 5) = n38 s ∧ n16 (9 * s + 6) = n39 s ∧ n16 (9 * s + 7) = n40 s ∧ n16 (9 * s + 8) = n41 s := by
    intro s hs
    by_cases h0 : (s : Int) < (ivy 12 3).toInt
    · have hn9 : s ≠ ((ivy 12 3).toInt).toNat := by omega
      have q := hrs s h0
      exact ⟨(by rw [y9x_1 (9 * s + 0) (by omega), y9y_3 s hn9]; exact q.1), (by rw [y9x_1 (9 * s + 1) (by omega), y9y_4 s hn9]; exact q.2.1), (by rw [y9x_1 (9 * s + 2) (by omega), y9y_5 s hn9]; exact q.2.2.1), (by rw [y9x_1 (9 * s + 3) (by omega), y9y_6 s hn9]; exact q.2.2.2.1), (by rw [y9x_1 (9 * s + 4) (by omega), y9y_7 s hn9]; exact q.2.2.2.2.1), (by rw [y9x_1 (9 * s + 5) (by omega), y9y_8 s hn9]; exact q.2.2.2.2.2.1), (by rw [y9x_1 (9 * s + 6) (by omega), y9y_9 s hn9]; exact q.2.2.2.2.2.2.1), (by rw [y9x_1 (9 * s + 7) (by omega), y9y_10 s hn9]; exact q.2.2.2.2.2.2.2.1), (by rw [y9x_1 (9 * s + 8) (by omega), y9y_11 s hn9]; exact q.2.2.2.2.2.2.2.2)⟩
    · have hs2 : s = ((ivy 12 3).toInt).toNat := by omega
      have hs3 : s = ((ivx 10 1).toInt).toNat := by omega
      rcases y9x_2 with ⟨q1, -⟩ | q
      · exfalso; omega
      · rcases y9y_12 with ⟨q1, -⟩ | p9
        · exfalso; omega
        · have e0 : n16 (9 * s + 0) = n33 s := (show n16 (9 * s + 0) = v2 from by rw [hs3]; exact q.1).trans ((show (v2 : Int32) = v19 from hv9_0).trans (show n33 s = v19 from by rw [hs2]; exact p9.1).symm)
          have e1 : n16 (9 * s + 1) = n34 s := (show n16 (9 * s + 1) = v4 from by rw [hs3]; exact q.2.1).trans ((show (v4 : Int32) = v21 from hv9_1).trans (show n34 s = v21 from by rw [hs2]; exact p9.2.1).symm)
          have e2 : n16 (9 * s + 2) = n35 s := (show n16 (9 * s + 2) = v6 from by rw [hs3]; exact q.2.2.1).trans ((show (v6 : Int32) = v23 from hv9_2).trans (show n35 s = v23 from by rw [hs2]; exact p9.2.2.1).symm)
          have e3 : n16 (9 * s + 3) = n36 s := (show n16 (9 * s + 3) = v8 from by rw [hs3]; exact q.2.2.2.1).trans ((show (v8 : Int32) = v25 from hv9_3).trans (show n36 s = v25 from by rw [hs2]; exact p9.2.2.2.1).symm)
          have e4 : n16 (9 * s + 4) = n37 s := (show n16 (9 * s + 4) = v10 from by rw [hs3]; exact q.2.2.2.2.1).trans ((show (v10 : Int32) = v27 from hv9_4).trans (show n37 s = v27 from by rw [hs2]; exact p9.2.2.2.2.1).symm)
          have e5 : n16 (9 * s + 5) = n38 s := (show n16 (9 * s + 5) = v12 from by rw [hs3]; exact q.2.2.2.2.2.1).trans ((show (v12 : Int32) = v29 from hv9_5).trans (show n38 s = v29 from by rw [hs2]; exact p9.2.2.2.2.2.1).symm)
          have e6 : n16 (9 * s + 6) = n39 s := (show n16 (9 * s + 6) = v14 from by rw [hs3]; exact q.2.2.2.2.2.2.1).trans ((show (v14 : Int32) = v31 from hv9_6).trans (show n39 s = v31 from by rw [hs2]; exact p9.2.2.2.2.2.2.1).symm)
          have e7 : n16 (9 * s + 7) = n40 s := (show n16 (9 * s + 7) = (ivx 11 10) from by rw [hs3]; exact q.2.2.2.2.2.2.2.1).trans ((show ((ivx 11 10) : Int32) = (ivy 12 0) from hq_now).trans (show n40 s = (ivy 12 0) from by rw [hs2]; exact p9.2.2.2.2.2.2.2.1).symm)
          have e8 : n16 (9 * s + 8) = n41 s := (show n16 (9 * s + 8) = (-1) from by rw [hs3]; exact q.2.2.2.2.2.2.2.2).trans ((show ((-1) : Int32) = (-1) from rfl).trans (show n41 s = (-1) from by rw [hs2]; exact p9.2.2.2.2.2.2.2.2).symm)
          exact ⟨e0, e1, e2, e3, e4, e5, e6, e7, e8⟩
  have hln : ∀ j : Nat, -1 ≤ (n41 j).toInt := by
    intro j
    by_cases hj : j = ((ivy 12 3).toInt).toNat
    · rcases y9y_12 with ⟨-, q⟩ | p9
      · rw [(q j).2.2.2.2.2.2.2.2]; exact hls j
      · rw [hj, p9.2.2.2.2.2.2.2.2]; decide
    · rw [y9y_11 j hj]; exact hls j
  have hwn : ∀ s : Nat, (s : Int) < (n42 : Int32).toInt → (100 ≤ (n36 s).toInt ∧ (n36 s).toInt ≤ 9999) ∧ (50 ≤ (n37 s).toInt ∧ (n37 s).toInt ≤ 9999) := by
    intro s hs
    by_cases h0 : (s : Int) < (ivy 12 3).toInt
    · have hn9 : s ≠ ((ivy 12 3).toInt).toNat := by omega
      rw [y9y_6 s hn9, y9y_7 s hn9]; exact hwd s h0
    · have hs2 : s = ((ivy 12 3).toInt).toNat := by omega
      rcases y9y_12 with ⟨q1, -⟩ | p9
      · exfalso; omega
      · rw [hs2, p9.2.2.2.1, p9.2.2.2.2.1]; exact ⟨⟨by omega, by omega⟩, by omega, by omega⟩
  have hdn : ∀ s : Nat, (s : Int) < (n42 : Int32).toInt → (n37 s).toInt ≤ (n36 s).toInt := by
    intro s hs
    by_cases h0 : (s : Int) < (ivy 12 3).toInt
    · have hn9 : s ≠ ((ivy 12 3).toInt).toNat := by omega
      rw [y9y_6 s hn9, y9y_7 s hn9]; exact hdr s h0
    · have hs2 : s = ((ivy 12 3).toInt).toNat := by omega
      rcases y9y_12 with ⟨q1, -⟩ | p9
      · exfalso; omega
      · rw [hs2, p9.2.2.2.1, p9.2.2.2.2.1]; omega
  refine lv_pop hx hb dL_law_329 rfl ?_
  refine lv_goto (tgt := 1509) hx hb dL_law_330 (by decide) ?_
  exact kk _ _ (u2 ivx 10 1 n17) lvx (u2 fax 10 0 n16) lax (u2 ivy 12 3 n42) lvy (u2 (u2 (u2 (u2 (u2 (u2 (u2 (u2 (u2 fay 12 4 n33) 12 5 n34) 12 6 n35) 12 7 n36) 12 8 n37) 12 9 n38) 12 10 n39) 12 11 n40) 12 12 n41) lay (IX_a (c := 10) (k := 0) (IX_i (c := 10) (k := 1) hIx hn17) hn16) (IX_a (c := 12) (k := 12) (IX_a (c := 12) (k := 11) (IX_a (c := 12) (k := 10) (IX_a (c := 12) (k := 9) (IX_a (c := 12) (k := 8) (IX_a (c := 12) (k := 7) (IX_a (c := 12) (k := 6) (IX_a (c := 12) (k := 5) (IX_a (c := 12) (k := 4) (IX_i (c := 12) (k := 3) hIy hn42) (fun j => full_i _)) (fun j => full_i _)) (fun j => full_i _)) hn36) (fun j => full_i _)) hn38) hn39) (fun j => full_i _)) (fun j => full_i _)) hJC xr32_0 xr32_1 hJO hq_now hq_bales (show (n17 : Int32) = n42 from Int32.toInt_inj.mp (by omega)) hq_rules hq_text hq_place hq_papers hrn hln hwn htx hbk hgr hgb hpa hdn hPx hDx hPy hDy hS
set_option maxHeartbeats 4000000 in
set_option maxRecDepth 100000 in
theorem law_3 {p : Program} {e : Env} {s : State} {m : MethodId} {below : List Frame} {meth : Method} {c : Code} (l : Launch) {b L : Nat} {xs : Nat → Int32} (hL : L ≤ 4096) (C0 : lw_At p s m meth c b L xs) {dC : Nat → ClassId} {dI : Nat → Nat → Nat} {A : Nat → Prop} (hA : ∀ q : Nat, s.heap.size ≤ q → A q) (hbA : ¬ A b) (hAs : ∀ q : Nat, A q → s.heap.size ≤ q) {x y : Nat} {gx gy : Nat → Nat → Nat} {cax cay : Nat → Nat → ClassId} {ak av : Nat → Nat} (hKx : va_K (dC, dI) classes (TX cax) s) (hKy : va_K (dC, dI) classes (TM cay) s) (hXY : ∀ a ∈ AdX x gx, ∀ b ∈ AdM y gy, a ≠ b) (hZ : zC ak av A s s.heap) {H : Heap} {locs : List Loc} {ivx : Nat → Nat → Int32} {lvx : Nat → Nat → Int64} {fax : Nat → Nat → Nat → Int32} {lax : Nat → Nat → Nat → Int64} {ivy : Nat → Nat → Int32} {lvy : Nat → Nat → Int64} {fay : Nat → Nat → Nat → Int32} {lay : Nat → Nat → Nat → Int64} (hIx : IX ivx fax) (hIy : IX ivy fay) (hJC : JCf (ivy 12 23).toInt (fay 12 25) (fay 12 26) (fay 12 27) (fay 12 28)) (hJR : JRf (ivy 12 3).toInt (fay 12 7)) (hJN : JNf (ivy 12 3).toInt (fay 12 4) (fay 12 5)) (hJO : ((ivy 12 20).toInt = -1 ∧ (ivy 12 21).toInt = -1 ∧ (ivy 12 22).toInt = -1)) (hq_now : ivx 11 10 = ivy 12 0) (hq_bales : ivx 0 7 = ivy 12 1) (hq_skeins : ivx 10 1 = ivy 12 3) (hq_rules : ivx 1 7 = ivy 12 23) (hq_text : ivx 8 2 = ivy 12 33) (hq_place : ivx 8 3 = ivy 12 36) (hq_papers : ivx 6 7 = ivy 12 67) (hrs : (∀ s : Nat, (s : Int) < (ivy 12 3).toInt → fax 10 0 (9 * s + 0) = fay 12 4 s ∧ fax 10 0 (9 * s + 1) = fay 12 5 s ∧ fax 10 0 (9 * s + 2) = fay 12 6 s ∧ fax 10 0 (9 * s + 3) = fay 12 7 s ∧ fax 10 0 (9 * s + 4) = fay 12 8 s ∧ fax 10 0 (9 * s + 5) = fay 12 9 s ∧ fax 10 0 (9 * s + 6) = fay 12 10 s ∧ fax 10 0 (9 * s + 7) = fay 12 11 s ∧ fax 10 0 (9 * s + 8) = fay 12 12 s)) (hls : (∀ j : Nat, -1 ≤ (fay 12 12 j).toInt)) (hwd : (∀ s : Nat, (s : Int) < (ivy 12 3).toInt → (100 ≤ (fay 12 7 s).toInt ∧ (fay 12 7 s).toInt ≤ 9999) ∧ (50 ≤ (fay 12 8 s).toInt ∧ (fay 12 8 s).toInt ≤ 9999))) (htx : (∀ j : Nat, (fax 8 1 j).toInt = sg (fay 12 32 j).toInt ∧ 0 ≤ (fay 12 32 j).toInt)) (hbk : BkE (ivy 12 23).toInt (fax 1 0) (fax 1 1) (fax 1 2) (fax 1 3) (fax 1 4) (fax 1 5) (fay 12 24) (fay 12 25) (fay 12 26) (fay 12 27) (fay 12 28) (fay 12 29) (fay 12 30) (fay 12 31)) (hgr : (∀ j : Nat, fax 0 0 j = fay 12 2 j)) (hgb : (∀ j : Nat, (j : Int) < (ivx 0 7).toInt → 1 ≤ (fax 0 0 j).toInt ∧ (fax 0 0 j).toInt ≤ 99999)) (hpa : PaE (ivy 12 67).toInt (fax 6 0) (fax 6 1) (fax 6 2) (fax 6 3) (fax 6 4) (fax 6 5) (fay 12 68) (fay 12 69) (lay 12 70) (fay 12 71) (fay 12 72) (fay 12 73)) (hdr : (∀ s : Nat, (s : Int) < (ivy 12 3).toInt → (fay 12 8 s).toInt ≤ (fay 12 7 s).toInt)) (hPx : va_P (dC, dI) classes (WX x gx cax ivx lvx fax lax) H) (hDx : va_D A (WX x gx cax ivx lvx fax lax)) (hPy : va_P (dC, dI) classes (WM y gy cay ivy lvy fay lay) H) (hDy : va_D A (WM y gy cay ivy lvy fay lay)) (hS : va_S A s.heap H locs) {i : Int32} {ls : Array Slot} (hl : lv_has ls 4 [(3, .int i), (2, .ref y), (1, .ref x), (0, .ref b)]) (hi : 0 ≤ i.toInt ∧ i.toInt ≤ 4088) (hi8 : i.toInt + 8 ≤ (L : Int)) (kk : ∀ (H : Heap) (locs : List Loc) (ivx : Nat → Nat → Int32) (lvx : Nat → Nat → Int64) (fax : Nat → Nat → Nat → Int32) (lax : Nat → Nat → Nat → Int64) (ivy : Nat → Nat → Int32) (lvy : Nat → Nat → Int64) (fay : Nat → Nat → Nat → Int32) (lay : Nat → Nat → Nat → Int64), IX ivx fax → IX ivy fay → JCf (ivy 12 23).toInt (fay 12 25) (fay 12 26) (fay 12 27) (fay 12 28) → JRf (ivy 12 3).toInt (fay 12 7) → JNf (ivy 12 3).toInt (fay 12 4) (fay 12 5) → ((ivy 12 20).toInt = -1 ∧ (ivy 12 21).toInt = -1 ∧ (ivy 12 22).toInt = -1) → ivx 11 10 = ivy 12 0 → ivx 0 7 = ivy 12 1 → ivx 10 1 = ivy 12 3 → ivx 1 7 = ivy 12 23 → ivx 8 2 = ivy 12 33 → ivx 8 3 = ivy 12 36 → ivx 6 7 = ivy 12 67 → (∀ s : Nat, (s : Int) < (ivy 12 3).toInt → fax 10 0 (9 * s + 0) = fay 12 4 s ∧ fax 10 0 (9 * s + 1) = fay 12 5 s ∧ fax 10 0 (9 * s + 2) = fay 12 6 s ∧ fax 10 0 (9 * s + 3) = fay 12 7 s ∧ fax 10 0 (9 * s + 4) = fay 12 8 s ∧ fax 10 0 (9 * s + 5) = fay 12 9 s ∧ fax 10 0 (9 * s + 6) = fay 12 10 s ∧ fax 10 0 (9 * s + 7) = fay 12 11 s ∧ fax 10 0 (9 * s + 8) = fay 12 12 s) → (∀ j : Nat, -1 ≤ (fay 12 12 j).toInt) → (∀ s : Nat, (s : Int) < (ivy 12 3).toInt → (100 ≤ (fay 12 7 s).toInt ∧ (fay 12 7 s).toInt ≤ 9999) ∧ (50 ≤ (fay 12 8 s).toInt ∧ (fay 12 8 s).toInt ≤ 9999)) → (∀ j : Nat, (fax 8 1 j).toInt = sg (fay 12 32 j).toInt ∧ 0 ≤ (fay 12 32 j).toInt) → BkE (ivy 12 23).toInt (fax 1 0) (fax 1 1) (fax 1 2) (fax 1 3) (fax 1 4) (fax 1 5) (fay 12 24) (fay 12 25) (fay 12 26) (fay 12 27) (fay 12 28) (fay 12 29) (fay 12 30) (fay 12 31) → (∀ j : Nat, fax 0 0 j = fay 12 2 j) → (∀ j : Nat, (j : Int) < (ivx 0 7).toInt → 1 ≤ (fax 0 0 j).toInt ∧ (fax 0 0 j).toInt ≤ 99999) → PaE (ivy 12 67).toInt (fax 6 0) (fax 6 1) (fax 6 2) (fax 6 3) (fax 6 4) (fax 6 5) (fay 12 68) (fay 12 69) (lay 12 70) (fay 12 71) (fay 12 72) (fay 12 73) → (∀ s : Nat, (s : Int) < (ivy 12 3).toInt → (fay 12 8 s).toInt ≤ (fay 12 7 s).toInt) → va_P (dC, dI) classes (WX x gx cax ivx lvx fax lax) H → va_D A (WX x gx cax ivx lvx fax lax) → va_P (dC, dI) classes (WM y gy cay ivy lvy fay lay) H → va_D A (WM y gy cay ivy lvy fay lay) → va_S A s.heap H locs → W p l e room_1 s m #[Value.ref b] below meth c H locs 98 5431 (lw_Z below #[Value.ref b] s) (F0 m 1509 ls [])) : W p l e room_1 s m #[Value.ref b] below meth c H locs 98 5431 (lw_Z below #[Value.ref b] s) (F0 m 333 ls []) := by
  obtain ⟨hx, hb, hr, hml, hown, hts, hX, hbl, hlocks, hgv⟩ := id C0
  have ht := tb_of hts
  have hJD := hwd
  have hw8 := congrArg Int32.toInt hq_skeins
  have hJW : ∀ s : Nat, (s : Int) < (ivx 10 1).toInt → (100 ≤ (fax 10 0 (9 * s + 3)).toInt ∧ (fax 10 0 (9 * s + 3)).toInt ≤ 9999) ∧ (50 ≤ (fax 10 0 (9 * s + 4)).toInt ∧ (fax 10 0 (9 * s + 4)).toInt ≤ 9999) := fun s hs => by rw [(hrs s (by omega)).2.2.2.1, (hrs s (by omega)).2.2.2.2.1]; exact hwd s (by omega)
  have hw8r := congrArg Int32.toInt hq_rules
  have hJB : ∀ j : Nat, (j : Int) < (ivx 1 7).toInt → 0 ≤ (fax 1 0 j).toInt := fun j hj => (hbk j (by omega)).2.2.1
  have hJK : ∀ k j : Nat, (k : Int) < (ivy 12 23).toInt → 12 * k ≤ j → (j : Int) < 12 * (k : Int) + (fay 12 25 k).toInt → (fay 12 26 j).toInt = 3 → 0 ≤ (fay 12 28 j).toInt ∧ (fay 12 28 j).toInt < (k : Int) := bk_K hbk
  have hw8b := congrArg Int32.toInt hq_bales
  have hJF : ∀ a d v : Int, 0 ≤ a → a ≤ 5 → FoX (ivx 1 7).toInt (fax 1 0) (fax 1 1) (fax 1 2) (fax 1 3) a d v → fLo a ≤ v ∧ v ≤ fHi a := fun a d v h1 h2 x => by rw [hq_rules] at x; exact FoX_b hbk ⟨h1, h2⟩ x
  have hJH : ∀ a d v : Int, 0 ≤ a → a ≤ 5 → FoY (ivy 12 23).toInt (fay 12 24) (fay 12 25) (fay 12 26) (fay 12 27) (fay 12 28) a d v → fLo a ≤ v ∧ v ≤ fHi a := fun a d v h1 h2 x => FoY_b hbk ⟨h1, h2⟩ x
  have hJG := hgb
  have hJI : ∀ j : Nat, (j : Int) < (ivy 12 1).toInt → 1 ≤ (fay 12 2 j).toInt ∧ (fay 12 2 j).toInt ≤ 99999 := fun j hj => by rw [← hgr j]; exact hgb j (by omega)
  have hJL : ∀ b l : Int32, cn0 (fun s => fax 10 0 (9 * s + 0)) (fun s => fax 10 0 (9 * s + 1)) b l (ivx 10 1).toInt.toNat ≤ 12 := fun b l => by rw [hq_skeins, cn0_congr (ob := fay 12 4) (ol := fay 12 5) _ (fun j hj => ⟨(hrs j (by omega)).1, (hrs j (by omega)).2.1⟩)]; exact hJN b l
  have hw8p := congrArg Int32.toInt hq_papers
  have hJQ : ∀ p : Nat, (p : Int) < (ivy 12 67).toInt → 0 ≤ (lay 12 70 p).toInt ∧ ((fay 12 68 p).toInt = 0 → (lay 12 70 p).toInt ≤ 129998) ∧ (lay 12 70 p).toInt ≤ 129868002 ∧ -1 ≤ (fay 12 71 p).toInt ∧ (fay 12 71 p).toInt < (p : Int) := fun p hp => ⟨(hpa p hp).2.2.1, (hpa p hp).2.2.2.1, (hpa p hp).2.2.2.2.1, (hpa p hp).2.2.2.2.2.1, (hpa p hp).2.2.2.2.2.2.1⟩
  have hJP : ∀ p : Nat, (p : Int) < (ivx 6 7).toInt → 0 ≤ (fax 6 2 p).toInt ∧ ((fax 6 0 p).toInt = 0 → (fax 6 2 p).toInt ≤ 129998) ∧ (fax 6 2 p).toInt ≤ 129868002 ∧ -1 ≤ (fax 6 3 p).toInt ∧ (fax 6 3 p).toInt < (p : Int) := fun p hp => by rw [(hpa p (by omega)).1.1, (hpa p (by omega)).1.2.2.1, (hpa p (by omega)).1.2.2.2.1]; exact hJQ p (by omega)
  have hJS : ∀ s : Nat, (s : Int) < (ivx 10 1).toInt → (fax 10 0 (9 * s + 4)).toInt ≤ (fax 10 0 (9 * s + 3)).toInt := fun s hs => by rw [(hrs s (by omega)).2.2.2.1, (hrs s (by omega)).2.2.2.2.1]; exact hdr s (by omega)
  have hJT : ∀ j : Nat, 0 ≤ (fay 12 32 j).toInt := fun j => (htx j).2
  refine lv_aload_n hx hb dL_law_333 rfl (lv_at hl 2 rfl) ?_
  refine aw_iconst (v := 1) hx hb hX hbl hbA hS hl hi hi8 (by decide) ⟨by decide, by decide⟩ dL_law_334 dL_law_335 dL_law_336 dL_law_337 dL_law_338 (fun v1 ev1 v2 ev2 => ?_)
  have hFc := free_all hDx hS hA
  refine va_calli (va_runV (As := [.int v2]) (rest := []) ⟨hx, hb, hml, hown, ht⟩ (c_X11_lose_x l dC dI H.size x gx cax ivx lvx fax lax hIx v2) (kV 1 ht m_505 m_506 m_507 m_77 m_508 rfl rfl hd_X11_lose_v ⟨Nat.le_of_ble_eq_true rfl, Nat.le_of_ble_eq_true rfl⟩) (vW hPx hKx hDx (rX_11 hKx hPx)) rfl rfl hl.1 rfl (lv_room (Nat.le_of_ble_eq_true rfl)) dL_law_339 ⟨Nat.le_of_ble_eq_true rfl, Nat.le_of_ble_eq_true rfl⟩) hS (fun q _ h => hFc q h) hFc (fun r3 u t H1 locs ht9 hvm hr3 hB hz1 hk1 hS => ?_)
  obtain ⟨n4, n5, hn4, xr3_0, xr3_1, xr3_2, hr3, rfl⟩ := hr3
  obtain ⟨hPx, hDx⟩ := hB
  rw [ht9] at hPx
  have hPy := P_kept hPy (la := AdM y gy) (lb := AdX x gx) wmM wmX (fun a ha b hb => (hXY b hb a ha).symm) hk1
  generalize H1 = H at hPx hPy hS ⊢
  have hPx : va_P (dC, dI) classes (WX x gx cax (u2 ivx 10 2 n5) lvx (u2 fax 10 0 n4) lax) H := hPx
  have hDx : va_D A (WX x gx cax (u2 ivx 10 2 n5) lvx (u2 fax 10 0 n4) lax) := (show va_D _ (WX x gx cax (u2 ivx 10 2 n5) lvx (u2 fax 10 0 n4) lax) from hDx).weaken (fun _ _ _ h => hFc _ h)
  refine lv_pop hx hb dL_law_342 rfl ?_
  refine lv_aload_n hx hb dL_law_343 rfl (lv_at hl 1 rfl) ?_
  refine aw_iconst (v := 1) hx hb hX hbl hbA hS hl hi hi8 (by decide) ⟨by decide, by decide⟩ dL_law_344 dL_law_345 dL_law_346 dL_law_347 dL_law_348 (fun v6 ev6 v7 ev7 => ?_)
  have hFc := free_all hDy hS hA
  refine va_calli (va_runV (As := [.int v7]) (rest := []) ⟨hx, hb, hml, hown, ht⟩ (c_X12_lose_x l dC dI H.size y gy cay ivy lvy fay lay hIy v7) (kV 1 ht m_1399 m_1400 m_1401 m_89 m_1402 rfl rfl hd_X12_lose_v ⟨Nat.le_of_ble_eq_true rfl, Nat.le_of_ble_eq_true rfl⟩) (vW hPy hKy hDy (rM_12 hKy hPy)) rfl rfl hl.1 rfl (lv_room (Nat.le_of_ble_eq_true rfl)) dL_law_349 ⟨Nat.le_of_ble_eq_true rfl, Nat.le_of_ble_eq_true rfl⟩) hS (fun q _ h => hFc q h) hFc (fun r8 u t H1 locs ht9 hvm hr8 hB hz1 hk1 hS => ?_)
  obtain ⟨n9, xr8_0, xr8_1, xr8_2, hr8, rfl⟩ := hr8
  obtain ⟨hPy, hDy⟩ := hB
  rw [ht9] at hPy
  have hPx := P_kept hPx (la := AdX x gx) (lb := AdM y gy) wmX wmM hXY hk1
  generalize H1 = H at hPx hPy hS ⊢
  have hPy : va_P (dC, dI) classes (WM y gy cay ivy lvy (u2 fay 12 12 n9) lay) H := hPy
  have hDy : va_D A (WM y gy cay ivy lvy (u2 fay 12 12 n9) lay) := (show va_D _ (WM y gy cay ivy lvy (u2 fay 12 12 n9) lay) from hDy).weaken (fun _ _ _ h => hFc _ h)
  have hv9_0 : (v2 : Int32) = v7 := by rw [ev2, ev7, ev1, ev6]
  have hu9_0 := congrArg Int32.toInt hv9_0
  have hw9_now := congrArg Int32.toInt hq_now
  have hw9_bales := congrArg Int32.toInt hq_bales
  have hw9_skeins := congrArg Int32.toInt hq_skeins
  have hw9_rules := congrArg Int32.toInt hq_rules
  have hw9_text := congrArg Int32.toInt hq_text
  have hw9_place := congrArg Int32.toInt hq_place
  have hw9_papers := congrArg Int32.toInt hq_papers
  have y9x_0 : ((r3.toInt = -100001 ∧ ¬ (0 ≤ (v2 : Int32).toInt ∧ (v2 : Int32).toInt < (ivx 10 1).toInt)) ∨ (r3.toInt = -100003 ∧ 0 ≤ (v2 : Int32).toInt ∧ (v2 : Int32).toInt < (ivx 10 1).toInt ∧ ((fax 10 0) (9 * ((v2 : Int32).toInt).toNat + 8)).toInt ≠ -1) ∨ (r3.toInt = 1 ∧ 0 ≤ (v2 : Int32).toInt ∧ (v2 : Int32).toInt < (ivx 10 1).toInt ∧ ((fax 10 0) (9 * ((v2 : Int32).toInt).toNat + 8)).toInt = -1)) := xr3_0
  have y9x_1 : ∀ j : Nat, j ≠ (9 * ((v2 : Int32).toInt).toNat + 8) → n4 j = (fax 10 0) j := xr3_1
  have y9x_2 : ((r3.toInt ≠ 1 ∧ (n4 (9 * ((v2 : Int32).toInt).toNat + 8)) = ((fax 10 0) (9 * ((v2 : Int32).toInt).toNat + 8))) ∨ (r3.toInt = 1 ∧ (n4 (9 * ((v2 : Int32).toInt).toNat + 8)) = (ivx 11 10))) := xr3_2
  have y9y_0 : ((r8.toInt = -100001 ∧ ¬ (0 ≤ (v7 : Int32).toInt ∧ (v7 : Int32).toInt < (ivy 12 3).toInt)) ∨ (r8.toInt = -100003 ∧ 0 ≤ (v7 : Int32).toInt ∧ (v7 : Int32).toInt < (ivy 12 3).toInt ∧ 0 ≤ ((fay 12 12) ((v7 : Int32).toInt).toNat).toInt) ∨ (r8.toInt = 1 ∧ 0 ≤ (v7 : Int32).toInt ∧ (v7 : Int32).toInt < (ivy 12 3).toInt ∧ ((fay 12 12) ((v7 : Int32).toInt).toNat).toInt < 0)) := xr8_0
  have y9y_1 : ∀ j : Nat, j ≠ ((v7 : Int32).toInt).toNat → n9 j = (fay 12 12) j := xr8_1
  have y9y_2 : ((r8.toInt ≠ 1 ∧ (n9 ((v7 : Int32).toInt).toNat) = ((fay 12 12) ((v7 : Int32).toInt).toNat)) ∨ (r8.toInt = 1 ∧ (n9 ((v7 : Int32).toInt).toNat) = (ivy 12 0))) := xr8_2
  have hi9 : ((v2 : Int32).toInt).toNat = ((v7 : Int32).toInt).toNat := by rw [hv9_0]
  have hr8 : (r3 : Int32).toInt = (r8 : Int32).toInt := by
    have hk9 := hls ((v7 : Int32).toInt).toNat
    by_cases h1 : 0 ≤ (v2 : Int32).toInt ∧ (v2 : Int32).toInt < (ivx 10 1).toInt
    · have q9 := congrArg Int32.toInt ((hrs ((v2 : Int32).toInt).toNat (by omega)).2.2.2.2.2.2.2.2)
      rw [← hi9] at y9y_0 hk9
      omega
    · omega
  have hrn : ∀ s : Nat, (s : Int) < (ivy 12 3).toInt → n4 (9 * s + 0) = (fay 12 4) s ∧ n4 (9 * s + 1) = (fay 12 5) s ∧ n4 (9 * s + 2) = (fay 12 6) s ∧ n4 (9 * s + 3) = (fay 12 7) s ∧ n4 (9 * s + 4) = (fay 12 8) s ∧ n4 (9 * s + 5) = (fay 12 9) s ∧ n4 (9 * s + 6) = (fay 12 10) s ∧ n4 (9 * s + 7) = (fay 12 11) s ∧ n4 (9 * s + 8) = n9 s := by
    intro s hs
    have q := hrs s hs
    have hl8 : n4 (9 * s + 8) = n9 s := by
      by_cases h0 : s = ((v2 : Int32).toInt).toNat
      · rcases y9x_2 with ⟨q1, q2⟩ | ⟨q1, q2⟩
        · rcases y9y_2 with ⟨p1, p2⟩ | ⟨p1, p2⟩
          · rw [← hi9] at p2
            rw [h0, q2, p2, ← h0]; exact q.2.2.2.2.2.2.2.2
          · exfalso; omega
        · rcases y9y_2 with ⟨p1, p2⟩ | ⟨p1, p2⟩
          · exfalso; omega
          · rw [← hi9] at p2
            rw [h0, q2, p2]; exact hq_now
      · rw [y9x_1 (9 * s + 8) (by omega), y9y_1 s (by rw [← hi9]; exact h0)]; exact q.2.2.2.2.2.2.2.2
    exact ⟨(by rw [y9x_1 (9 * s + 0) (by omega)]; exact q.1), (by rw [y9x_1 (9 * s + 1) (by omega)]; exact q.2.1), (by rw [y9x_1 (9 * s + 2) (by omega)]; exact q.2.2.1), (by rw [y9x_1 (9 * s + 3) (by omega)]; exact q.2.2.2.1), (by rw [y9x_1 (9 * s + 4) (by omega)]; exact q.2.2.2.2.1), (by rw [y9x_1 (9 * s + 5) (by omega)]; exact q.2.2.2.2.2.1), (by rw [y9x_1 (9 * s + 6) (by omega)]; exact q.2.2.2.2.2.2.1), (by rw [y9x_1 (9 * s + 7) (by omega)]; exact q.2.2.2.2.2.2.2.1), hl8⟩
  have hln : ∀ j : Nat, -1 ≤ (n9 j).toInt := by
    intro j
    by_cases hj : j = ((v7 : Int32).toInt).toNat
    · rcases y9y_2 with ⟨-, p2⟩ | ⟨-, p2⟩
      · rw [hj, p2]; exact hls _
      · rw [hj, p2]; have h5 : 0 ≤ (ivy 12 0).toInt ∧ (ivy 12 0).toInt ≤ 3000 := hIy.1 12 0; omega
    · rw [y9y_1 j hj]; exact hls j
  refine lv_pop hx hb dL_law_352 rfl ?_
  refine lv_goto (tgt := 1509) hx hb dL_law_353 (by decide) ?_
  exact kk _ _ (u2 ivx 10 2 n5) lvx (u2 fax 10 0 n4) lax ivy lvy (u2 fay 12 12 n9) lay (IX_a (c := 10) (k := 0) (IX_i (c := 10) (k := 2) hIx (full_i _)) hn4) (IX_a (c := 12) (k := 12) hIy (fun j => full_i _)) hJC hJR hJN hJO hq_now hq_bales hq_skeins hq_rules hq_text hq_place hq_papers hrn hln hwd htx hbk hgr hgb hpa hdr hPx hDx hPy hDy hS
set_option maxHeartbeats 4000000 in
set_option maxRecDepth 100000 in
theorem law_4 {p : Program} {e : Env} {s : State} {m : MethodId} {below : List Frame} {meth : Method} {c : Code} (l : Launch) {b L : Nat} {xs : Nat → Int32} (hL : L ≤ 4096) (C0 : lw_At p s m meth c b L xs) {dC : Nat → ClassId} {dI : Nat → Nat → Nat} {A : Nat → Prop} (hA : ∀ q : Nat, s.heap.size ≤ q → A q) (hbA : ¬ A b) (hAs : ∀ q : Nat, A q → s.heap.size ≤ q) {x y : Nat} {gx gy : Nat → Nat → Nat} {cax cay : Nat → Nat → ClassId} {ak av : Nat → Nat} (hKx : va_K (dC, dI) classes (TX cax) s) (hKy : va_K (dC, dI) classes (TM cay) s) (hXY : ∀ a ∈ AdX x gx, ∀ b ∈ AdM y gy, a ≠ b) (hZ : zC ak av A s s.heap) {H : Heap} {locs : List Loc} {ivx : Nat → Nat → Int32} {lvx : Nat → Nat → Int64} {fax : Nat → Nat → Nat → Int32} {lax : Nat → Nat → Nat → Int64} {ivy : Nat → Nat → Int32} {lvy : Nat → Nat → Int64} {fay : Nat → Nat → Nat → Int32} {lay : Nat → Nat → Nat → Int64} (hIx : IX ivx fax) (hIy : IX ivy fay) (hJC : JCf (ivy 12 23).toInt (fay 12 25) (fay 12 26) (fay 12 27) (fay 12 28)) (hJR : JRf (ivy 12 3).toInt (fay 12 7)) (hJN : JNf (ivy 12 3).toInt (fay 12 4) (fay 12 5)) (hJO : ((ivy 12 20).toInt = -1 ∧ (ivy 12 21).toInt = -1 ∧ (ivy 12 22).toInt = -1)) (hq_now : ivx 11 10 = ivy 12 0) (hq_bales : ivx 0 7 = ivy 12 1) (hq_skeins : ivx 10 1 = ivy 12 3) (hq_rules : ivx 1 7 = ivy 12 23) (hq_text : ivx 8 2 = ivy 12 33) (hq_place : ivx 8 3 = ivy 12 36) (hq_papers : ivx 6 7 = ivy 12 67) (hrs : (∀ s : Nat, (s : Int) < (ivy 12 3).toInt → fax 10 0 (9 * s + 0) = fay 12 4 s ∧ fax 10 0 (9 * s + 1) = fay 12 5 s ∧ fax 10 0 (9 * s + 2) = fay 12 6 s ∧ fax 10 0 (9 * s + 3) = fay 12 7 s ∧ fax 10 0 (9 * s + 4) = fay 12 8 s ∧ fax 10 0 (9 * s + 5) = fay 12 9 s ∧ fax 10 0 (9 * s + 6) = fay 12 10 s ∧ fax 10 0 (9 * s + 7) = fay 12 11 s ∧ fax 10 0 (9 * s + 8) = fay 12 12 s)) (hls : (∀ j : Nat, -1 ≤ (fay 12 12 j).toInt)) (hwd : (∀ s : Nat, (s : Int) < (ivy 12 3).toInt → (100 ≤ (fay 12 7 s).toInt ∧ (fay 12 7 s).toInt ≤ 9999) ∧ (50 ≤ (fay 12 8 s).toInt ∧ (fay 12 8 s).toInt ≤ 9999))) (htx : (∀ j : Nat, (fax 8 1 j).toInt = sg (fay 12 32 j).toInt ∧ 0 ≤ (fay 12 32 j).toInt)) (hbk : BkE (ivy 12 23).toInt (fax 1 0) (fax 1 1) (fax 1 2) (fax 1 3) (fax 1 4) (fax 1 5) (fay 12 24) (fay 12 25) (fay 12 26) (fay 12 27) (fay 12 28) (fay 12 29) (fay 12 30) (fay 12 31)) (hgr : (∀ j : Nat, fax 0 0 j = fay 12 2 j)) (hgb : (∀ j : Nat, (j : Int) < (ivx 0 7).toInt → 1 ≤ (fax 0 0 j).toInt ∧ (fax 0 0 j).toInt ≤ 99999)) (hpa : PaE (ivy 12 67).toInt (fax 6 0) (fax 6 1) (fax 6 2) (fax 6 3) (fax 6 4) (fax 6 5) (fay 12 68) (fay 12 69) (lay 12 70) (fay 12 71) (fay 12 72) (fay 12 73)) (hdr : (∀ s : Nat, (s : Int) < (ivy 12 3).toInt → (fay 12 8 s).toInt ≤ (fay 12 7 s).toInt)) (hPx : va_P (dC, dI) classes (WX x gx cax ivx lvx fax lax) H) (hDx : va_D A (WX x gx cax ivx lvx fax lax)) (hPy : va_P (dC, dI) classes (WM y gy cay ivy lvy fay lay) H) (hDy : va_D A (WM y gy cay ivy lvy fay lay)) (hS : va_S A s.heap H locs) {i : Int32} {ls : Array Slot} (hl : lv_has ls 4 [(3, .int i), (2, .ref y), (1, .ref x), (0, .ref b)]) (hi : 0 ≤ i.toInt ∧ i.toInt ≤ 4088) (hi8 : i.toInt + 8 ≤ (L : Int)) (kk : ∀ (H : Heap) (locs : List Loc) (ivx : Nat → Nat → Int32) (lvx : Nat → Nat → Int64) (fax : Nat → Nat → Nat → Int32) (lax : Nat → Nat → Nat → Int64) (ivy : Nat → Nat → Int32) (lvy : Nat → Nat → Int64) (fay : Nat → Nat → Nat → Int32) (lay : Nat → Nat → Nat → Int64), IX ivx fax → IX ivy fay → JCf (ivy 12 23).toInt (fay 12 25) (fay 12 26) (fay 12 27) (fay 12 28) → JRf (ivy 12 3).toInt (fay 12 7) → JNf (ivy 12 3).toInt (fay 12 4) (fay 12 5) → ((ivy 12 20).toInt = -1 ∧ (ivy 12 21).toInt = -1 ∧ (ivy 12 22).toInt = -1) → ivx 11 10 = ivy 12 0 → ivx 0 7 = ivy 12 1 → ivx 10 1 = ivy 12 3 → ivx 1 7 = ivy 12 23 → ivx 8 2 = ivy 12 33 → ivx 8 3 = ivy 12 36 → ivx 6 7 = ivy 12 67 → (∀ s : Nat, (s : Int) < (ivy 12 3).toInt → fax 10 0 (9 * s + 0) = fay 12 4 s ∧ fax 10 0 (9 * s + 1) = fay 12 5 s ∧ fax 10 0 (9 * s + 2) = fay 12 6 s ∧ fax 10 0 (9 * s + 3) = fay 12 7 s ∧ fax 10 0 (9 * s + 4) = fay 12 8 s ∧ fax 10 0 (9 * s + 5) = fay 12 9 s ∧ fax 10 0 (9 * s + 6) = fay 12 10 s ∧ fax 10 0 (9 * s + 7) = fay 12 11 s ∧ fax 10 0 (9 * s + 8) = fay 12 12 s) → (∀ j : Nat, -1 ≤ (fay 12 12 j).toInt) → (∀ s : Nat, (s : Int) < (ivy 12 3).toInt → (100 ≤ (fay 12 7 s).toInt ∧ (fay 12 7 s).toInt ≤ 9999) ∧ (50 ≤ (fay 12 8 s).toInt ∧ (fay 12 8 s).toInt ≤ 9999)) → (∀ j : Nat, (fax 8 1 j).toInt = sg (fay 12 32 j).toInt ∧ 0 ≤ (fay 12 32 j).toInt) → BkE (ivy 12 23).toInt (fax 1 0) (fax 1 1) (fax 1 2) (fax 1 3) (fax 1 4) (fax 1 5) (fay 12 24) (fay 12 25) (fay 12 26) (fay 12 27) (fay 12 28) (fay 12 29) (fay 12 30) (fay 12 31) → (∀ j : Nat, fax 0 0 j = fay 12 2 j) → (∀ j : Nat, (j : Int) < (ivx 0 7).toInt → 1 ≤ (fax 0 0 j).toInt ∧ (fax 0 0 j).toInt ≤ 99999) → PaE (ivy 12 67).toInt (fax 6 0) (fax 6 1) (fax 6 2) (fax 6 3) (fax 6 4) (fax 6 5) (fay 12 68) (fay 12 69) (lay 12 70) (fay 12 71) (fay 12 72) (fay 12 73) → (∀ s : Nat, (s : Int) < (ivy 12 3).toInt → (fay 12 8 s).toInt ≤ (fay 12 7 s).toInt) → va_P (dC, dI) classes (WX x gx cax ivx lvx fax lax) H → va_D A (WX x gx cax ivx lvx fax lax) → va_P (dC, dI) classes (WM y gy cay ivy lvy fay lay) H → va_D A (WM y gy cay ivy lvy fay lay) → va_S A s.heap H locs → W p l e room_1 s m #[Value.ref b] below meth c H locs 98 5431 (lw_Z below #[Value.ref b] s) (F0 m 1509 ls [])) : W p l e room_1 s m #[Value.ref b] below meth c H locs 98 5431 (lw_Z below #[Value.ref b] s) (F0 m 356 ls []) := by
  obtain ⟨hx, hb, hr, hml, hown, hts, hX, hbl, hlocks, hgv⟩ := id C0
  have ht := tb_of hts
  have hJD := hwd
  have hw8 := congrArg Int32.toInt hq_skeins
  have hJW : ∀ s : Nat, (s : Int) < (ivx 10 1).toInt → (100 ≤ (fax 10 0 (9 * s + 3)).toInt ∧ (fax 10 0 (9 * s + 3)).toInt ≤ 9999) ∧ (50 ≤ (fax 10 0 (9 * s + 4)).toInt ∧ (fax 10 0 (9 * s + 4)).toInt ≤ 9999) := fun s hs => by rw [(hrs s (by omega)).2.2.2.1, (hrs s (by omega)).2.2.2.2.1]; exact hwd s (by omega)
  have hw8r := congrArg Int32.toInt hq_rules
  have hJB : ∀ j : Nat, (j : Int) < (ivx 1 7).toInt → 0 ≤ (fax 1 0 j).toInt := fun j hj => (hbk j (by omega)).2.2.1
  have hJK : ∀ k j : Nat, (k : Int) < (ivy 12 23).toInt → 12 * k ≤ j → (j : Int) < 12 * (k : Int) + (fay 12 25 k).toInt → (fay 12 26 j).toInt = 3 → 0 ≤ (fay 12 28 j).toInt ∧ (fay 12 28 j).toInt < (k : Int) := bk_K hbk
  have hw8b := congrArg Int32.toInt hq_bales
  have hJF : ∀ a d v : Int, 0 ≤ a → a ≤ 5 → FoX (ivx 1 7).toInt (fax 1 0) (fax 1 1) (fax 1 2) (fax 1 3) a d v → fLo a ≤ v ∧ v ≤ fHi a := fun a d v h1 h2 x => by rw [hq_rules] at x; exact FoX_b hbk ⟨h1, h2⟩ x
  have hJH : ∀ a d v : Int, 0 ≤ a → a ≤ 5 → FoY (ivy 12 23).toInt (fay 12 24) (fay 12 25) (fay 12 26) (fay 12 27) (fay 12 28) a d v → fLo a ≤ v ∧ v ≤ fHi a := fun a d v h1 h2 x => FoY_b hbk ⟨h1, h2⟩ x
  have hJG := hgb
  have hJI : ∀ j : Nat, (j : Int) < (ivy 12 1).toInt → 1 ≤ (fay 12 2 j).toInt ∧ (fay 12 2 j).toInt ≤ 99999 := fun j hj => by rw [← hgr j]; exact hgb j (by omega)
  have hJL : ∀ b l : Int32, cn0 (fun s => fax 10 0 (9 * s + 0)) (fun s => fax 10 0 (9 * s + 1)) b l (ivx 10 1).toInt.toNat ≤ 12 := fun b l => by rw [hq_skeins, cn0_congr (ob := fay 12 4) (ol := fay 12 5) _ (fun j hj => ⟨(hrs j (by omega)).1, (hrs j (by omega)).2.1⟩)]; exact hJN b l
  have hw8p := congrArg Int32.toInt hq_papers
  have hJQ : ∀ p : Nat, (p : Int) < (ivy 12 67).toInt → 0 ≤ (lay 12 70 p).toInt ∧ ((fay 12 68 p).toInt = 0 → (lay 12 70 p).toInt ≤ 129998) ∧ (lay 12 70 p).toInt ≤ 129868002 ∧ -1 ≤ (fay 12 71 p).toInt ∧ (fay 12 71 p).toInt < (p : Int) := fun p hp => ⟨(hpa p hp).2.2.1, (hpa p hp).2.2.2.1, (hpa p hp).2.2.2.2.1, (hpa p hp).2.2.2.2.2.1, (hpa p hp).2.2.2.2.2.2.1⟩
  have hJP : ∀ p : Nat, (p : Int) < (ivx 6 7).toInt → 0 ≤ (fax 6 2 p).toInt ∧ ((fax 6 0 p).toInt = 0 → (fax 6 2 p).toInt ≤ 129998) ∧ (fax 6 2 p).toInt ≤ 129868002 ∧ -1 ≤ (fax 6 3 p).toInt ∧ (fax 6 3 p).toInt < (p : Int) := fun p hp => by rw [(hpa p (by omega)).1.1, (hpa p (by omega)).1.2.2.1, (hpa p (by omega)).1.2.2.2.1]; exact hJQ p (by omega)
  have hJS : ∀ s : Nat, (s : Int) < (ivx 10 1).toInt → (fax 10 0 (9 * s + 4)).toInt ≤ (fax 10 0 (9 * s + 3)).toInt := fun s hs => by rw [(hrs s (by omega)).2.2.2.1, (hrs s (by omega)).2.2.2.2.1]; exact hdr s (by omega)
  have hJT : ∀ j : Nat, 0 ≤ (fay 12 32 j).toInt := fun j => (htx j).2
  refine lv_aload_n hx hb dL_law_356 rfl (lv_at hl 2 rfl) ?_
  refine aw_iconst (v := 1) hx hb hX hbl hbA hS hl hi hi8 (by decide) ⟨by decide, by decide⟩ dL_law_357 dL_law_358 dL_law_359 dL_law_360 dL_law_361 (fun v1 ev1 v2 ev2 => ?_)
  refine aw_iconst (v := 2) hx hb hX hbl hbA hS hl hi hi8 (by decide) ⟨by decide, by decide⟩ dL_law_362 dL_law_363 dL_law_364 dL_law_365 dL_law_366 (fun v3 ev3 v4 ev4 => ?_)
  refine vp_callSi (W.runV (As := [.int v2, .int v4]) (rest := []) ⟨hx, hb, hml, hown, ht⟩ (c_X11_told_x l dC dI x gx cax ivx lvx fax lax hIx v2 v4) (kV 2 ht m_518 m_519 m_520 m_77 m_521 rfl rfl hd_X11_told_v ⟨Nat.le_of_ble_eq_true rfl, Nat.le_of_ble_eq_true rfl⟩) (vR hPx hKx (rX_11 hKx hPx)) rfl rfl hl.1 rfl (lv_room (Nat.le_of_ble_eq_true rfl)) dL_law_367 ⟨Nat.le_of_ble_eq_true rfl, Nat.le_of_ble_eq_true rfl⟩) (fun r5 hr5 => ?_)
  obtain ⟨hr5, xr5_0⟩ := hr5
  refine lv_pop hx hb dL_law_370 rfl ?_
  refine lv_aload_n hx hb dL_law_371 rfl (lv_at hl 1 rfl) ?_
  refine aw_iconst (v := 1) hx hb hX hbl hbA hS hl hi hi8 (by decide) ⟨by decide, by decide⟩ dL_law_372 dL_law_373 dL_law_374 dL_law_375 dL_law_376 (fun v6 ev6 v7 ev7 => ?_)
  refine aw_iconst (v := 2) hx hb hX hbl hbA hS hl hi hi8 (by decide) ⟨by decide, by decide⟩ dL_law_377 dL_law_378 dL_law_379 dL_law_380 dL_law_381 (fun v8 ev8 v9 ev9 => ?_)
  refine vp_callSi (W.runV (As := [.int v7, .int v9]) (rest := []) ⟨hx, hb, hml, hown, ht⟩ (c_X12_told_x l dC dI y gy cay ivy lvy fay lay hIy v7 v9) (kV 2 ht m_1407 m_1408 m_1409 m_89 m_1410 rfl rfl hd_X12_told_v ⟨Nat.le_of_ble_eq_true rfl, Nat.le_of_ble_eq_true rfl⟩) (vR hPy hKy (rM_12 hKy hPy)) rfl rfl hl.1 rfl (lv_room (Nat.le_of_ble_eq_true rfl)) dL_law_382 ⟨Nat.le_of_ble_eq_true rfl, Nat.le_of_ble_eq_true rfl⟩) (fun r10 hr10 => ?_)
  obtain ⟨hr10, xr10_0⟩ := hr10
  have hv9_0 : (v2 : Int32) = v7 := by rw [ev2, ev7, ev1, ev6]
  have hu9_0 := congrArg Int32.toInt hv9_0
  have hv9_1 : (v4 : Int32) = v9 := by rw [ev4, ev9, ev3, ev8]
  have hu9_1 := congrArg Int32.toInt hv9_1
  have hw9_now := congrArg Int32.toInt hq_now
  have hw9_bales := congrArg Int32.toInt hq_bales
  have hw9_skeins := congrArg Int32.toInt hq_skeins
  have hw9_rules := congrArg Int32.toInt hq_rules
  have hw9_text := congrArg Int32.toInt hq_text
  have hw9_place := congrArg Int32.toInt hq_place
  have hw9_papers := congrArg Int32.toInt hq_papers
  have y9x_0 : ((r5.toInt = -100001 ∧ ¬ (0 ≤ (v2 : Int32).toInt ∧ (v2 : Int32).toInt < (ivx 10 1).toInt)) ∨ (r5.toInt = -100002 ∧ 0 ≤ (v2 : Int32).toInt ∧ (v2 : Int32).toInt < (ivx 10 1).toInt ∧ ¬ (0 ≤ (v4 : Int32).toInt ∧ (v4 : Int32).toInt ≤ 8)) ∨ (0 ≤ (v2 : Int32).toInt ∧ (v2 : Int32).toInt < (ivx 10 1).toInt ∧ 0 ≤ (v4 : Int32).toInt ∧ (v4 : Int32).toInt ≤ 8 ∧ r5.toInt = ((fax 10 0) (9 * ((v2 : Int32).toInt).toNat + ((v4 : Int32).toInt).toNat)).toInt)) := xr5_0
  have y9y_0 : ((r10.toInt = -100001 ∧ ¬ (0 ≤ (v7 : Int32).toInt ∧ (v7 : Int32).toInt < (ivy 12 3).toInt)) ∨ (r10.toInt = -100002 ∧ 0 ≤ (v7 : Int32).toInt ∧ (v7 : Int32).toInt < (ivy 12 3).toInt ∧ ¬ (0 ≤ (v9 : Int32).toInt ∧ (v9 : Int32).toInt ≤ 8)) ∨ ((0 ≤ (v7 : Int32).toInt ∧ (v7 : Int32).toInt < (ivy 12 3).toInt) ∧ (v9 : Int32).toInt = 0 ∧ r10.toInt = ((fay 12 4) ((v7 : Int32).toInt).toNat).toInt) ∨ ((0 ≤ (v7 : Int32).toInt ∧ (v7 : Int32).toInt < (ivy 12 3).toInt) ∧ (v9 : Int32).toInt = 1 ∧ r10.toInt = ((fay 12 5) ((v7 : Int32).toInt).toNat).toInt) ∨ ((0 ≤ (v7 : Int32).toInt ∧ (v7 : Int32).toInt < (ivy 12 3).toInt) ∧ (v9 : Int32).toInt = 2 ∧ r10.toInt = ((fay 12 6) ((v7 : Int32).toInt).toNat).toInt) ∨ ((0 ≤ (v7 : Int32).toInt ∧ (v7 : Int32).toInt < (ivy 12 3).toInt) ∧ (v9 : Int32).toInt = 3 ∧ r10.toInt = ((fay 12 7) ((v7 : Int32).toInt).toNat).toInt) ∨ ((0 ≤ (v7 : Int32).toInt ∧ (v7 : Int32).toInt < (ivy 12 3).toInt) ∧ (v9 : Int32).toInt = 4 ∧ r10.toInt = ((fay 12 8) ((v7 : Int32).toInt).toNat).toInt) ∨ ((0 ≤ (v7 : Int32).toInt ∧ (v7 : Int32).toInt < (ivy 12 3).toInt) ∧ (v9 : Int32).toInt = 5 ∧ r10.toInt = ((fay 12 9) ((v7 : Int32).toInt).toNat).toInt) ∨ ((0 ≤ (v7 : Int32).toInt ∧ (v7 : Int32).toInt < (ivy 12 3).toInt) ∧ (v9 : Int32).toInt = 6 ∧ r10.toInt = ((fay 12 10) ((v7 : Int32).toInt).toNat).toInt) ∨ ((0 ≤ (v7 : Int32).toInt ∧ (v7 : Int32).toInt < (ivy 12 3).toInt) ∧ (v9 : Int32).toInt = 7 ∧ r10.toInt = ((fay 12 11) ((v7 : Int32).toInt).toNat).toInt) ∨ ((0 ≤ (v7 : Int32).toInt ∧ (v7 : Int32).toInt < (ivy 12 3).toInt) ∧ (v9 : Int32).toInt = 8 ∧ r10.toInt = ((fay 12 12) ((v7 : Int32).toInt).toNat).toInt)) := xr10_0
  have hr8 : (r5 : Int32).toInt = (r10 : Int32).toInt := by
    by_cases h1 : (0 ≤ (v2 : Int32).toInt ∧ (v2 : Int32).toInt < (ivx 10 1).toInt) ∧ 0 ≤ (v4 : Int32).toInt ∧ (v4 : Int32).toInt ≤ 8
    · have q := hrs ((v2 : Int32).toInt).toNat (by omega)
      rw [← hv9_0] at y9y_0
      rcases (by omega : (v4 : Int32).toInt = 0 ∨ (v4 : Int32).toInt = 1 ∨ (v4 : Int32).toInt = 2 ∨ (v4 : Int32).toInt = 3 ∨ (v4 : Int32).toInt = 4 ∨ (v4 : Int32).toInt = 5 ∨ (v4 : Int32).toInt = 6 ∨ (v4 : Int32).toInt = 7 ∨ (v4 : Int32).toInt = 8) with h2 | h2 | h2 | h2 | h2 | h2 | h2 | h2 | h2
      · have h3 : 9 * ((v2 : Int32).toInt).toNat + ((v4 : Int32).toInt).toNat = 9 * ((v2 : Int32).toInt).toNat + 0 := by omega
        rw [h3] at y9x_0
        have q9 := congrArg Int32.toInt (q.1)
        omega
      · have h3 : 9 * ((v2 : Int32).toInt).toNat + ((v4 : Int32).toInt).toNat = 9 * ((v2 : Int32).toInt).toNat + 1 := by omega
        rw [h3] at y9x_0
        have q9 := congrArg Int32.toInt (q.2.1)
        omega
      · have h3 : 9 * ((v2 : Int32).toInt).toNat + ((v4 : Int32).toInt).toNat = 9 * ((v2 : Int32).toInt).toNat + 2 := by omega
        rw [h3] at y9x_0
        have q9 := congrArg Int32.toInt (q.2.2.1)
        omega
      · have h3 : 9 * ((v2 : Int32).toInt).toNat + ((v4 : Int32).toInt).toNat = 9 * ((v2 : Int32).toInt).toNat + 3 := by omega
        rw [h3] at y9x_0
        have q9 := congrArg Int32.toInt (q.2.2.2.1)
        omega
      · have h3 : 9 * ((v2 : Int32).toInt).toNat + ((v4 : Int32).toInt).toNat = 9 * ((v2 : Int32).toInt).toNat + 4 := by omega
        rw [h3] at y9x_0
        have q9 := congrArg Int32.toInt (q.2.2.2.2.1)
        omega
      · have h3 : 9 * ((v2 : Int32).toInt).toNat + ((v4 : Int32).toInt).toNat = 9 * ((v2 : Int32).toInt).toNat + 5 := by omega
        rw [h3] at y9x_0
        have q9 := congrArg Int32.toInt (q.2.2.2.2.2.1)
        omega
      · have h3 : 9 * ((v2 : Int32).toInt).toNat + ((v4 : Int32).toInt).toNat = 9 * ((v2 : Int32).toInt).toNat + 6 := by omega
        rw [h3] at y9x_0
        have q9 := congrArg Int32.toInt (q.2.2.2.2.2.2.1)
        omega
      · have h3 : 9 * ((v2 : Int32).toInt).toNat + ((v4 : Int32).toInt).toNat = 9 * ((v2 : Int32).toInt).toNat + 7 := by omega
        rw [h3] at y9x_0
        have q9 := congrArg Int32.toInt (q.2.2.2.2.2.2.2.1)
        omega
      · have h3 : 9 * ((v2 : Int32).toInt).toNat + ((v4 : Int32).toInt).toNat = 9 * ((v2 : Int32).toInt).toNat + 8 := by omega
        rw [h3] at y9x_0
        have q9 := congrArg Int32.toInt (q.2.2.2.2.2.2.2.2)
        omega
    · omega
  refine lv_pop hx hb dL_law_385 rfl ?_
  refine lv_goto (tgt := 1509) hx hb dL_law_386 (by decide) ?_
  exact kk _ _ ivx lvx fax lax ivy lvy fay lay hIx hIy hJC hJR hJN hJO hq_now hq_bales hq_skeins hq_rules hq_text hq_place hq_papers hrs hls hwd htx hbk hgr hgb hpa hdr hPx hDx hPy hDy hS

/-- a byte that is there counts as one -/
def zb_i (x : Int32) : Nat := if x = 0 then 0 else 1
theorem zb_i_le (x : Int32) : zb_i x ≤ 1 := by unfold zb_i; split <;> omega
def zb_u (w k : Int32) : Int32 := (w.toUInt32 >>> (k.toUInt32 &&& Int32.toUInt32 31)).toInt32 &&& 255
def zb_s (w k : Int32) : Int32 := (w >>> (k &&& 31)) &&& 255
def zb_n (w : Int32) : Nat := zb_i (zb_u w 24) + zb_i (zb_u w 16) + zb_i (zb_u w 8) + zb_i (zb_u w 0)
theorem zb_n_le (w : Int32) : zb_n w ≤ 4 := by
  have h1 := zb_i_le (zb_u w 24); have h2 := zb_i_le (zb_u w 16); have h3 := zb_i_le (zb_u w 8); have h4 := zb_i_le (zb_u w 0)
  unfold zb_n; omega
theorem zb_uu (w s : Int32) (k : Nat) (hs : ((s.toUInt32 &&& Int32.toUInt32 31).toBitVec % 32).toNat = k) : zb_u w s = nI (w.toBitVec.toNat / 2 ^ k % 256) := by
  unfold zb_u
  rw [pk_and (m := 255) _ 8 (by decide), pk_ushr w s k hs]
theorem zb_num (x y d : Nat) (hd : d = 1 ∨ d = 256 ∨ d = 65536 ∨ d = 16777216) (hx : x < 4294967296) (hy : y < 4294967296)
    (h : (if 2 * x < 4294967296 then (x : Int) else (x : Int) - ((4294967296 : Nat) : Int)) = (if 2 * y < 4294967296 then (y : Int) else (y : Int) - ((4294967296 : Nat) : Int)) / ((d : Nat) : Int)) : x % 256 = y / d % 256 := by
  rcases hd with rfl | rfl | rfl | rfl <;> split at h <;> split at h <;> omega
theorem zb_ss (w s : Int32) (k d : Nat) (hkd : 2 ^ k = d) (hd : d = 1 ∨ d = 256 ∨ d = 65536 ∨ d = 16777216) (hs : ((s &&& 31).toBitVec.smod 32).toNat = k) : zb_s w s = nI (w.toBitVec.toNat / d % 256) := by
  unfold zb_s
  rw [pk_and (m := 255) _ 8 (by decide)]
  have h1 := pk_shr w (s &&& 31) k hs
  rw [Int.shiftRight_eq_div_pow, hkd] at h1
  have e1 : (w >>> (s &&& 31)).toInt = (w >>> (s &&& 31)).toBitVec.toInt := rfl
  have e2 : w.toInt = w.toBitVec.toInt := rfl
  rw [e1, e2, BitVec.toInt_eq_toNat_cond, BitVec.toInt_eq_toNat_cond] at h1
  have h2 := zb_num (w >>> (s &&& 31)).toBitVec.toNat w.toBitVec.toNat d hd (w >>> (s &&& 31)).toBitVec.isLt w.toBitVec.isLt h1
  rw [show (2 : Nat) ^ 8 = 256 from rfl, h2]
def zb_w (a b c d e : Int32) (k : Nat) : Int32 := if k < 4 then a else if k < 8 then b else if k < 12 then c else if k < 16 then d else e
def zb_h (k : Nat) : Int32 := if k % 4 = 0 then 24 else if k % 4 = 1 then 16 else if k % 4 = 2 then 8 else 0
def zb_at (a b c d e : Int32) (k : Nat) : Int32 := zb_s (zb_w a b c d e k) (zb_h k)
def zb_c (a b c d e : Int32) : Nat → Nat
  | 0 => 0
  | k + 1 => zb_c a b c d e k + zb_i (zb_at a b c d e k)
theorem zb_c_le (a b c d e : Int32) : ∀ k, zb_c a b c d e k ≤ k
  | 0 => Nat.le_refl 0
  | k + 1 => Nat.add_le_add (zb_c_le a b c d e k) (zb_i_le _)
theorem zb_24 (w : Int32) : zb_s w 24 = zb_u w 24 := by rw [zb_ss w 24 24 16777216 (by decide) (by decide) (by decide), zb_uu w 24 24 (by decide)]
theorem zb_16 (w : Int32) : zb_s w 16 = zb_u w 16 := by rw [zb_ss w 16 16 65536 (by decide) (by decide) (by decide), zb_uu w 16 16 (by decide)]
theorem zb_8 (w : Int32) : zb_s w 8 = zb_u w 8 := by rw [zb_ss w 8 8 256 (by decide) (by decide) (by decide), zb_uu w 8 8 (by decide)]
theorem zb_0 (w : Int32) : zb_s w 0 = zb_u w 0 := by rw [zb_ss w 0 0 1 (by decide) (by decide) (by decide), zb_uu w 0 0 (by decide)]
theorem zb_sum (a b c d e : Int32) : zb_c a b c d e 20 = 0 + zb_n a + zb_n b + zb_n c + zb_n d + zb_n e := by
  have h : zb_c a b c d e 20 = 0 + zb_i (zb_s a 24) + zb_i (zb_s a 16) + zb_i (zb_s a 8) + zb_i (zb_s a 0) + zb_i (zb_s b 24) + zb_i (zb_s b 16) + zb_i (zb_s b 8) + zb_i (zb_s b 0) + zb_i (zb_s c 24) + zb_i (zb_s c 16) + zb_i (zb_s c 8) + zb_i (zb_s c 0) + zb_i (zb_s d 24) + zb_i (zb_s d 16) + zb_i (zb_s d 8) + zb_i (zb_s d 0) + zb_i (zb_s e 24) + zb_i (zb_s e 16) + zb_i (zb_s e 8) + zb_i (zb_s e 0) := rfl
  rw [h]
  simp only [zb_24, zb_16, zb_8, zb_0, zb_n]
  omega
/-- x != 0 ? 1 : 0 -/
theorem zj_if {p : Program} {l : Launch} {e : Env} {R : Room} {s : State} {m : MethodId} {args : Array Value} {below : List Frame} {meth : Method} {c : Code} {H : Heap} {locs : List Loc} {cells slots : Nat} {Q : State → Prop} {cc : ByteArray} {pc tgt : Nat} {ls : Array Slot} {rest : List Value} {x : Int32} {o1 o2 : Int}
    (hx : p.tables.exec = Jvm.exec) (hb : c.code = cc) (d0 : decode cc pc = .ok (.ifCond .eq o1, 3)) (h1 : (pc : Int) + o1 = (tgt : Int)) (d1 : decode cc (pc + 3) = .ok (.iconst 1, 1)) (d2 : decode cc (pc + 3 + 1) = .ok (.goto o2, 3)) (h2 : ((pc + 3 + 1 : Nat) : Int) + o2 = ((tgt + 1 : Nat) : Int)) (d3 : decode cc tgt = .ok (.iconst 0, 1))
    (k : W p l e R s m args below meth c H locs cells slots Q (F0 m (tgt + 1) ls (.int (nI (zb_i x)) :: rest))) : W p l e R s m args below meth c H locs cells slots Q (F0 m pc ls (.int x :: rest)) := by
  refine lv_if_eq (tgt := tgt) hx hb d0 h1 (fun c9 => ?_) (fun c9 => ?_)
  · refine lv_iconst (v := 0) hx hb d3 (by decide) ?_
    rw [show zb_i x = 0 from if_pos c9] at k
    exact k
  · refine lv_iconst (v := 1) hx hb d1 (by decide) ?_
    refine lv_goto (tgt := tgt + 1) hx hb d2 h2 ?_
    rw [show zb_i x = 1 from if_neg c9] at k
    exact k

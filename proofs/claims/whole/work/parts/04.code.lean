abbrev gc_O : Type := Nat × Instr × Nat × Nat × Nat
def gc_lk (i : Nat) : Instr → Nat → Nat → Nat → Bool := fun ins pc a b => match ins with
  | .iconst n => Int32.ofInt n == gb_iv a b
  | .bipush n => (Int8.ofInt n).toInt32 == gb_iv a b
  | .sipush n => (Int16.ofInt n).toInt32 == gb_iv a b
  | .lconst n => Int64.ofNat n.val == gb_lv a b
  | .ldc x | .ldc_w x => gl_K.any (fun r => r.1 == gm_o i && (r.2.1 == x && (r.2.2.1 == a && r.2.2.2.1 == b)))
  | .ldc2_w x => gl_L.any (fun r => r.1 == gm_o i && (r.2.1 == x && (r.2.2.1 == a && r.2.2.2.1 == b)))
  | .iload_n k | .aload_n k | .lload_n k | .istore_n k | .astore_n k | .lstore_n k => k.val == a
  | .iload k | .aload k | .lload k | .istore k | .astore k | .lstore k => k == a
  | .iinc _ n => Int32.ofInt n == gb_iv a b
  | .ifCond _ off | .if_icmp _ off | .goto off => (pc : Int) + off == (a : Int)
  | .getfield x | .putfield x => gl_F.any (fun r => r.1 == gm_o i && (r.2.1 == x && (r.2.2.1 == a && r.2.2.2.1 == b)))
  | .getstatic x => gl_S.any (fun r => r.1 == gm_o i && (r.2.1 == x && r.2.2.1 == a))
  | .invokevirtual x | .invokestatic x | .invokespecial x => (gl_M.any (fun r => r.1 == gm_o i && (r.2.1 == x && r.2.2.1 == a))) || (gl_N.any (fun r => r.1 == gm_o i && (r.2.1 == x && r.2.2.1 == a)))
  | .new x | .anewarray x | .multianewarray x _ => gl_C.any (fun r => r.1 == gm_o i && (r.2.1 == x && r.2.2.1 == (if a = 14 then 3 else a)))
  | .newarray .int => a == 12
  | .newarray .boolean => a == 13
  | .tableswitch d lo _ offs => (decide (0 ≤ (pc : Int) + d)) && (offs.toList.all (fun f => decide (0 ≤ (pc : Int) + f)))
  | _ => true
def gc_ok (i : Nat) (r : gc_O) : Bool := decide (decode (gm_b i) r.1 = .ok (r.2.1, r.2.2.1)) && gc_lk i r.2.1 r.1 r.2.2.2.1 r.2.2.2.2
def gc_0 : List gc_O := [
  (0, .aload_n 0, 1, 0, 0), (1, .invokespecial 3, 3, 1000, 0), (4, .aload_n 0, 1, 0, 0), (5, .bipush 14, 2, 14, 0), (7, .anewarray 9, 3, 14, 0), (10, .putfield 11, 3, 0, 0),
  (13, .iconst 0, 1, 0, 0), (14, .istore_n 1, 1, 1, 0), (15, .iload_n 1, 1, 1, 0), (16, .bipush 14, 2, 14, 0), (18, .if_icmp .ge 22, 3, 40, 0), (21, .aload_n 0, 1, 0, 0),
  (22, .getfield 11, 3, 0, 0), (25, .iload_n 1, 1, 1, 0), (26, .new 9, 3, 3, 0), (29, .dup, 1, 0, 0), (30, .invokespecial 17, 3, 12, 0), (33, .aastore, 1, 0, 0),
  (34, .iinc 1 1, 3, 1, 0), (37, .goto (-22), 3, 15, 0), (40, .return_, 1, 0, 0)]
def gc_1 : List gc_O := [
  (0, .aload_n 0, 1, 0, 0), (1, .iconst 0, 1, 0, 0), (2, .putfield 18, 3, 0, 2), (5, .return_, 1, 0, 0)]
def gc_2 : List gc_O := [
  (0, .aload_n 0, 1, 0, 0), (1, .getfield 11, 3, 0, 0), (4, .aload_n 0, 1, 0, 0), (5, .getfield 22, 3, 0, 1), (8, .aaload, 1, 0, 0), (9, .aload_n 1, 1, 1, 0),
  (10, .invokevirtual 25, 3, 15, 1), (13, .aload_n 0, 1, 0, 0), (14, .aload_n 0, 1, 0, 0), (15, .getfield 22, 3, 0, 1), (18, .iconst 1, 1, 1, 0), (19, .iadd, 1, 0, 0),
  (20, .bipush 14, 2, 14, 0), (22, .irem, 1, 0, 0), (23, .putfield 22, 3, 0, 1), (26, .aload_n 0, 1, 0, 0), (27, .aload_n 0, 1, 0, 0), (28, .getfield 18, 3, 0, 2),
  (31, .iconst 1, 1, 1, 0), (32, .iadd, 1, 0, 0), (33, .bipush 14, 2, 14, 0), (35, .invokestatic 29, 3, 1003, 2), (38, .putfield 18, 3, 0, 2), (41, .return_, 1, 0, 0)]
def gc_3 : List gc_O := [
  (0, .aload_n 0, 1, 0, 0), (1, .getfield 18, 3, 0, 2), (4, .ifCond .ne 5, 3, 9, 0), (7, .iconst 0, 1, 0, 0), (8, .ireturn, 1, 0, 0), (9, .aload_n 0, 1, 0, 0),
  (10, .aload_n 0, 1, 0, 0), (11, .getfield 22, 3, 0, 1), (14, .bipush 14, 2, 14, 0), (16, .iadd, 1, 0, 0), (17, .iconst 1, 1, 1, 0), (18, .isub, 1, 0, 0),
  (19, .bipush 14, 2, 14, 0), (21, .irem, 1, 0, 0), (22, .putfield 22, 3, 0, 1), (25, .aload_n 1, 1, 1, 0), (26, .aload_n 0, 1, 0, 0), (27, .getfield 11, 3, 0, 0),
  (30, .aload_n 0, 1, 0, 0), (31, .getfield 22, 3, 0, 1), (34, .aaload, 1, 0, 0), (35, .invokevirtual 25, 3, 15, 1), (38, .aload_n 0, 1, 0, 0), (39, .dup, 1, 0, 0),
  (40, .getfield 18, 3, 0, 2), (43, .iconst 1, 1, 1, 0), (44, .isub, 1, 0, 0), (45, .putfield 18, 3, 0, 2), (48, .iconst 1, 1, 1, 0), (49, .ireturn, 1, 0, 0)]
def gc_4 : List gc_O := [
  (0, .aload_n 0, 1, 0, 0), (1, .invokespecial 1, 3, 1000, 0), (4, .aload_n 0, 1, 0, 0), (5, .aload_n 1, 1, 1, 0), (6, .putfield 7, 3, 1, 0), (9, .return_, 1, 0, 0)]
def gc_5 : List gc_O := [
  (0, .iconst 0, 1, 0, 0), (1, .istore_n 1, 1, 1, 0), (2, .iload_n 1, 1, 1, 0), (3, .aload_n 0, 1, 0, 0), (4, .getfield 7, 3, 1, 0), (7, .invokevirtual 13, 3, 51, 0),
  (10, .if_icmp .ge 79, 3, 89, 0), (13, .aload_n 0, 1, 0, 0), (14, .getfield 7, 3, 1, 0), (17, .iload_n 1, 1, 1, 0), (18, .invokevirtual 19, 3, 52, 1), (21, .istore_n 2, 1, 2, 0),
  (22, .aload_n 0, 1, 0, 0), (23, .getfield 7, 3, 1, 0), (26, .iload_n 2, 1, 2, 0), (27, .iconst 0, 1, 0, 0), (28, .invokevirtual 23, 3, 53, 2), (31, .aload_n 0, 1, 0, 0),
  (32, .getfield 7, 3, 1, 0), (35, .invokevirtual 27, 3, 58, 0), (38, .aload_n 0, 1, 0, 0), (39, .getfield 30, 3, 1, 2), (42, .isub, 1, 0, 0), (43, .istore_n 3, 1, 3, 0),
  (44, .iload_n 1, 1, 1, 0), (45, .ifCond .eq 22, 3, 67, 0), (48, .iload_n 3, 1, 3, 0), (49, .ifCond .gt 18, 3, 67, 0), (52, .iload_n 3, 1, 3, 0), (53, .ifCond .ne 30, 3, 83, 0),
  (56, .iload_n 2, 1, 2, 0), (57, .aload_n 0, 1, 0, 0), (58, .getfield 33, 3, 1, 1), (61, .invokestatic 36, 3, 7, 2), (64, .ifCond .eq 19, 3, 83, 0), (67, .aload_n 0, 1, 0, 0),
  (68, .iload_n 2, 1, 2, 0), (69, .putfield 33, 3, 1, 1), (72, .aload_n 0, 1, 0, 0), (73, .aload_n 0, 1, 0, 0), (74, .getfield 7, 3, 1, 0), (77, .invokevirtual 27, 3, 58, 0),
  (80, .putfield 30, 3, 1, 2), (83, .iinc 1 1, 3, 1, 0), (86, .goto (-84), 3, 2, 0), (89, .return_, 1, 0, 0)]
def gc_6 : List gc_O := [
  (0, .iconst 0, 1, 0, 0), (1, .istore_n 2, 1, 2, 0), (2, .iconst 0, 1, 0, 0), (3, .istore_n 3, 1, 3, 0), (4, .iload_n 3, 1, 3, 0), (5, .aload_n 0, 1, 0, 0),
  (6, .getfield 7, 3, 1, 0), (9, .invokevirtual 13, 3, 51, 0), (12, .if_icmp .ge 64, 3, 76, 0), (15, .aload_n 0, 1, 0, 0), (16, .getfield 7, 3, 1, 0), (19, .iload_n 3, 1, 3, 0),
  (20, .invokevirtual 19, 3, 52, 1), (23, .istore 4, 2, 4, 0), (25, .aload_n 0, 1, 0, 0), (26, .getfield 7, 3, 1, 0), (29, .iload 4, 2, 4, 0), (31, .iconst 0, 1, 0, 0),
  (32, .invokevirtual 23, 3, 53, 2), (35, .aload_n 0, 1, 0, 0), (36, .getfield 7, 3, 1, 0), (39, .invokevirtual 40, 3, 61, 0), (42, .iload_n 1, 1, 1, 0), (43, .if_icmp .ne 27, 3, 70, 0),
  (46, .iload_n 2, 1, 2, 0), (47, .ifCond .eq 15, 3, 62, 0), (50, .iload 4, 2, 4, 0), (52, .aload_n 0, 1, 0, 0), (53, .getfield 33, 3, 1, 1), (56, .invokestatic 36, 3, 7, 2),
  (59, .ifCond .eq 11, 3, 70, 0), (62, .aload_n 0, 1, 0, 0), (63, .iload 4, 2, 4, 0), (65, .putfield 33, 3, 1, 1), (68, .iconst 1, 1, 1, 0), (69, .istore_n 2, 1, 2, 0),
  (70, .iinc 3 1, 3, 1, 0), (73, .goto (-69), 3, 4, 0), (76, .iload_n 2, 1, 2, 0), (77, .ireturn, 1, 0, 0)]
def gc_7 : List gc_O := [
  (0, .iload_n 1, 1, 1, 0), (1, .invokestatic 43, 3, 163, 1), (4, .iload_n 0, 1, 0, 0), (5, .invokestatic 43, 3, 163, 1), (8, .isub, 1, 0, 0), (9, .istore_n 2, 1, 2, 0),
  (10, .iload_n 2, 1, 2, 0), (11, .ifCond .gt 12, 3, 23, 0), (14, .iload_n 2, 1, 2, 0), (15, .ifCond .ne 12, 3, 27, 0), (18, .iload_n 0, 1, 0, 0), (19, .iload_n 1, 1, 1, 0),
  (20, .if_icmp .ge 7, 3, 27, 0), (23, .iconst 1, 1, 1, 0), (24, .goto 4, 3, 28, 0), (27, .iconst 0, 1, 0, 0), (28, .ireturn, 1, 0, 0)]
def gc_8 : List gc_O := [
  (0, .aload_n 0, 1, 0, 0), (1, .invokespecial 3, 3, 1000, 0), (4, .aload_n 0, 1, 0, 0), (5, .bipush 64, 2, 64, 0), (7, .newarray .int, 2, 12, 0), (9, .putfield 9, 3, 2, 2),
  (12, .aload_n 0, 1, 0, 0), (13, .bipush 64, 2, 64, 0), (15, .newarray .int, 2, 12, 0), (17, .putfield 15, 3, 2, 3), (20, .aload_n 0, 1, 0, 0), (21, .aload_n 1, 1, 1, 0),
  (22, .putfield 18, 3, 2, 0), (25, .aload_n 0, 1, 0, 0), (26, .aload_n 2, 1, 2, 0), (27, .putfield 22, 3, 2, 1), (30, .return_, 1, 0, 0)]
def gc_9 : List gc_O := [
  (0, .iconst 0, 1, 0, 0), (1, .istore_n 1, 1, 1, 0), (2, .iload_n 1, 1, 1, 0), (3, .aload_n 0, 1, 0, 0), (4, .getfield 22, 3, 2, 1), (7, .invokevirtual 26, 3, 51, 0),
  (10, .if_icmp .ge 84, 3, 94, 0), (13, .aload_n 0, 1, 0, 0), (14, .getfield 22, 3, 2, 1), (17, .iload_n 1, 1, 1, 0), (18, .invokevirtual 32, 3, 52, 1), (21, .istore_n 2, 1, 2, 0),
  (22, .aload_n 0, 1, 0, 0), (23, .getfield 22, 3, 2, 1), (26, .iload_n 2, 1, 2, 0), (27, .iconst 0, 1, 0, 0), (28, .invokevirtual 36, 3, 53, 2), (31, .aload_n 0, 1, 0, 0),
  (32, .iload_n 2, 1, 2, 0), (33, .invokevirtual 40, 3, 10, 1), (36, .iconst 0, 1, 0, 0), (37, .istore_n 3, 1, 3, 0), (38, .iload_n 3, 1, 3, 0), (39, .iconst 1, 1, 1, 0),
  (40, .aload_n 0, 1, 0, 0), (41, .getfield 18, 3, 2, 0), (44, .getfield 44, 3, 7, 4), (47, .ishl, 1, 0, 0), (48, .if_icmp .ge 40, 3, 88, 0), (51, .iload_n 1, 1, 1, 0),
  (52, .ifCond .eq 18, 3, 70, 0), (55, .aload_n 0, 1, 0, 0), (56, .getfield 15, 3, 2, 3), (59, .iload_n 3, 1, 3, 0), (60, .iaload, 1, 0, 0), (61, .aload_n 0, 1, 0, 0),
  (62, .getfield 9, 3, 2, 2), (65, .iload_n 3, 1, 3, 0), (66, .iaload, 1, 0, 0), (67, .if_icmp .le 15, 3, 82, 0), (70, .aload_n 0, 1, 0, 0), (71, .getfield 9, 3, 2, 2),
  (74, .iload_n 3, 1, 3, 0), (75, .aload_n 0, 1, 0, 0), (76, .getfield 15, 3, 2, 3), (79, .iload_n 3, 1, 3, 0), (80, .iaload, 1, 0, 0), (81, .iastore, 1, 0, 0),
  (82, .iinc 3 1, 3, 1, 0), (85, .goto (-47), 3, 38, 0), (88, .iinc 1 1, 3, 1, 0), (91, .goto (-89), 3, 2, 0), (94, .return_, 1, 0, 0)]
def gc_10 : List gc_O := [
  (0, .aload_n 0, 1, 0, 0), (1, .getfield 15, 3, 2, 3), (4, .iconst 0, 1, 0, 0), (5, .aload_n 0, 1, 0, 0), (6, .getfield 18, 3, 2, 0), (9, .getfield 50, 3, 7, 2),
  (12, .ineg, 1, 0, 0), (13, .iload_n 1, 1, 1, 0), (14, .invokestatic 53, 3, 163, 1), (17, .imul, 1, 0, 0), (18, .iastore, 1, 0, 0), (19, .iconst 0, 1, 0, 0),
  (20, .istore_n 2, 1, 2, 0), (21, .iload_n 2, 1, 2, 0), (22, .aload_n 0, 1, 0, 0), (23, .getfield 18, 3, 2, 0), (26, .getfield 44, 3, 7, 4), (29, .if_icmp .ge 53, 3, 82, 0),
  (32, .iconst 1, 1, 1, 0), (33, .iload_n 2, 1, 2, 0), (34, .ishl, 1, 0, 0), (35, .istore_n 3, 1, 3, 0), (36, .iconst 0, 1, 0, 0), (37, .istore 4, 2, 4, 0),
  (39, .iload 4, 2, 4, 0), (41, .iload_n 3, 1, 3, 0), (42, .if_icmp .ge 34, 3, 76, 0), (45, .aload_n 0, 1, 0, 0), (46, .getfield 15, 3, 2, 3), (49, .iload_n 3, 1, 3, 0),
  (50, .iload 4, 2, 4, 0), (52, .ior, 1, 0, 0), (53, .aload_n 0, 1, 0, 0), (54, .getfield 15, 3, 2, 3), (57, .iload 4, 2, 4, 0), (59, .iaload, 1, 0, 0),
  (60, .aload_n 0, 1, 0, 0), (61, .getfield 22, 3, 2, 1), (64, .iload_n 2, 1, 2, 0), (65, .invokevirtual 58, 3, 60, 1), (68, .iadd, 1, 0, 0), (69, .iastore, 1, 0, 0),
  (70, .iinc 4 1, 3, 1, 0), (73, .goto (-34), 3, 39, 0), (76, .iinc 2 1, 3, 1, 0), (79, .goto (-58), 3, 21, 0), (82, .return_, 1, 0, 0)]
def gc_11 : List gc_O := [
  (0, .lconst 0, 1, 0, 0), (1, .lstore_n 2, 1, 2, 0), (2, .aload_n 0, 1, 0, 0), (3, .getfield 18, 3, 2, 0), (6, .getfield 44, 3, 7, 4), (9, .iconst 1, 1, 1, 0),
  (10, .isub, 1, 0, 0), (11, .istore 4, 2, 4, 0), (13, .iconst 0, 1, 0, 0), (14, .istore 5, 2, 5, 0), (16, .iload 5, 2, 5, 0), (18, .iconst 1, 1, 1, 0),
  (19, .aload_n 0, 1, 0, 0), (20, .getfield 18, 3, 2, 0), (23, .getfield 44, 3, 7, 4), (26, .ishl, 1, 0, 0), (27, .if_icmp .ge 70, 3, 97, 0), (30, .iload 5, 2, 5, 0),
  (32, .iload_n 1, 1, 1, 0), (33, .invokestatic 61, 3, 96, 2), (36, .ifCond .ne 55, 3, 91, 0), (39, .iload 5, 2, 5, 0), (41, .invokestatic 53, 3, 163, 1), (44, .istore 6, 2, 6, 0),
  (46, .getstatic 65, 3, 1, 0), (49, .iload 6, 2, 6, 0), (51, .iaload, 1, 0, 0), (52, .getstatic 65, 3, 1, 0), (55, .iload 4, 2, 4, 0), (57, .iload 6, 2, 6, 0),
  (59, .isub, 1, 0, 0), (60, .iaload, 1, 0, 0), (61, .imul, 1, 0, 0), (62, .istore 7, 2, 7, 0), (64, .lload_n 2, 1, 2, 0), (65, .iload 7, 2, 7, 0),
  (67, .i2l, 1, 0, 0), (68, .aload_n 0, 1, 0, 0), (69, .getfield 9, 3, 2, 2), (72, .iload 5, 2, 5, 0), (74, .iconst 1, 1, 1, 0), (75, .iload_n 1, 1, 1, 0),
  (76, .ishl, 1, 0, 0), (77, .ior, 1, 0, 0), (78, .iaload, 1, 0, 0), (79, .aload_n 0, 1, 0, 0), (80, .getfield 9, 3, 2, 2), (83, .iload 5, 2, 5, 0),
  (85, .iaload, 1, 0, 0), (86, .isub, 1, 0, 0), (87, .i2l, 1, 0, 0), (88, .lmul, 1, 0, 0), (89, .ladd, 1, 0, 0), (90, .lstore_n 2, 1, 2, 0),
  (91, .iinc 5 1, 3, 1, 0), (94, .goto (-78), 3, 16, 0), (97, .lload_n 2, 1, 2, 0), (98, .lreturn, 1, 0, 0)]
def gc_12 : List gc_O := [
  (0, .aload_n 0, 1, 0, 0), (1, .invokespecial 3, 3, 1000, 0), (4, .aload_n 0, 1, 0, 0), (5, .bipush 10, 2, 10, 0), (7, .newarray .int, 2, 12, 0), (9, .putfield 9, 3, 3, 0),
  (12, .return_, 1, 0, 0)]
def gc_13 : List gc_O := [
  (0, .aload_n 0, 1, 0, 0), (1, .invokevirtual 15, 3, 14, 0), (4, .aload_n 0, 1, 0, 0), (5, .iconst 0, 1, 0, 0), (6, .putfield 18, 3, 3, 1), (9, .aload_n 0, 1, 0, 0),
  (10, .iconst 0, 1, 0, 0), (11, .putfield 22, 3, 3, 2), (14, .aload_n 0, 1, 0, 0), (15, .iconst 0, 1, 0, 0), (16, .putfield 25, 3, 3, 3), (19, .return_, 1, 0, 0)]
def gc_14 : List gc_O := [
  (0, .iconst 0, 1, 0, 0), (1, .istore_n 1, 1, 1, 0), (2, .iload_n 1, 1, 1, 0), (3, .bipush 10, 2, 10, 0), (5, .if_icmp .ge 16, 3, 21, 0), (8, .aload_n 0, 1, 0, 0),
  (9, .getfield 9, 3, 3, 0), (12, .iload_n 1, 1, 1, 0), (13, .iconst 0, 1, 0, 0), (14, .iastore, 1, 0, 0), (15, .iinc 1 1, 3, 1, 0), (18, .goto (-16), 3, 2, 0),
  (21, .return_, 1, 0, 0)]
def gc_15 : List gc_O := [
  (0, .aload_n 1, 1, 1, 0), (1, .getfield 9, 3, 3, 0), (4, .iconst 0, 1, 0, 0), (5, .aload_n 0, 1, 0, 0), (6, .getfield 9, 3, 3, 0), (9, .iconst 0, 1, 0, 0),
  (10, .bipush 10, 2, 10, 0), (12, .invokestatic 28, 3, 1001, 5), (15, .aload_n 0, 1, 0, 0), (16, .aload_n 1, 1, 1, 0), (17, .getfield 18, 3, 3, 1), (20, .putfield 18, 3, 3, 1),
  (23, .aload_n 0, 1, 0, 0), (24, .aload_n 1, 1, 1, 0), (25, .getfield 22, 3, 3, 2), (28, .putfield 22, 3, 3, 2), (31, .aload_n 0, 1, 0, 0), (32, .aload_n 1, 1, 1, 0),
  (33, .getfield 25, 3, 3, 3), (36, .putfield 25, 3, 3, 3), (39, .return_, 1, 0, 0)]
def gc_16 : List gc_O := [
  (0, .aload_n 0, 1, 0, 0), (1, .invokespecial 3, 3, 1000, 0), (4, .aload_n 0, 1, 0, 0), (5, .bipush 9, 2, 9, 0), (7, .bipush 48, 2, 48, 0), (9, .multianewarray 9 2, 4, 15, 0),
  (13, .putfield 11, 3, 4, 2), (16, .aload_n 0, 1, 0, 0), (17, .bipush 9, 2, 9, 0), (19, .bipush 48, 2, 48, 0), (21, .multianewarray 9 2, 4, 15, 0), (25, .putfield 16, 3, 4, 3),
  (28, .aload_n 0, 1, 0, 0), (29, .bipush 9, 2, 9, 0), (31, .bipush 9, 2, 9, 0), (33, .multianewarray 9 2, 4, 15, 0), (37, .putfield 19, 3, 4, 4), (40, .aload_n 0, 1, 0, 0),
  (41, .bipush 9, 2, 9, 0), (43, .bipush 9, 2, 9, 0), (45, .multianewarray 9 2, 4, 15, 0), (49, .putfield 22, 3, 4, 5), (52, .aload_n 0, 1, 0, 0), (53, .aload_n 1, 1, 1, 0),
  (54, .putfield 25, 3, 4, 0), (57, .aload_n 0, 1, 0, 0), (58, .aload_n 2, 1, 2, 0), (59, .putfield 29, 3, 4, 1), (62, .return_, 1, 0, 0)]
def gc_17 : List gc_O := [
  (0, .aload_n 0, 1, 0, 0), (1, .aload_n 1, 1, 1, 0), (2, .aload_n 0, 1, 0, 0), (3, .getfield 25, 3, 4, 0), (6, .getfield 33, 3, 7, 0), (9, .aload_n 0, 1, 0, 0),
  (10, .getfield 11, 3, 4, 2), (13, .invokevirtual 39, 3, 18, 3), (16, .aload_n 0, 1, 0, 0), (17, .aload_n 2, 1, 2, 0), (18, .iload_n 3, 1, 3, 0), (19, .aload_n 0, 1, 0, 0),
  (20, .getfield 16, 3, 4, 3), (23, .invokevirtual 39, 3, 18, 3), (26, .iconst 0, 1, 0, 0), (27, .istore 4, 2, 4, 0), (29, .iload 4, 2, 4, 0), (31, .aload_n 0, 1, 0, 0),
  (32, .getfield 29, 3, 4, 1), (35, .getfield 43, 3, 9, 12), (38, .if_icmp .gt 38, 3, 76, 0), (41, .iconst 0, 1, 0, 0), (42, .istore 5, 2, 5, 0), (44, .iload 5, 2, 5, 0),
  (46, .aload_n 0, 1, 0, 0), (47, .getfield 29, 3, 4, 1), (50, .getfield 43, 3, 9, 12), (53, .if_icmp .gt 17, 3, 70, 0), (56, .aload_n 0, 1, 0, 0), (57, .iload 4, 2, 4, 0),
  (59, .iload 5, 2, 5, 0), (61, .invokevirtual 48, 3, 19, 2), (64, .iinc 5 1, 3, 1, 0), (67, .goto (-23), 3, 44, 0), (70, .iinc 4 1, 3, 1, 0), (73, .goto (-44), 3, 29, 0),
  (76, .aload_n 0, 1, 0, 0), (77, .invokevirtual 52, 3, 20, 0), (80, .return_, 1, 0, 0)]
def gc_18 : List gc_O := [
  (0, .aload_n 0, 1, 0, 0), (1, .getfield 29, 3, 4, 1), (4, .aload_n 1, 1, 1, 0), (5, .iload_n 2, 1, 2, 0), (6, .invokevirtual 55, 3, 50, 2), (9, .iconst 0, 1, 0, 0),
  (10, .istore 4, 2, 4, 0), (12, .iload 4, 2, 4, 0), (14, .aload_n 0, 1, 0, 0), (15, .getfield 29, 3, 4, 1), (18, .getfield 43, 3, 9, 12), (21, .if_icmp .gt 123, 3, 144, 0),
  (24, .aload_n 0, 1, 0, 0), (25, .getfield 29, 3, 4, 1), (28, .iload 4, 2, 4, 0), (30, .aload_n 0, 1, 0, 0), (31, .getfield 29, 3, 4, 1), (34, .getfield 43, 3, 9, 12),
  (37, .if_icmp .ge 18, 3, 55, 0), (40, .iconst 1, 1, 1, 0), (41, .aload_n 0, 1, 0, 0), (42, .getfield 29, 3, 4, 1), (45, .getfield 59, 3, 9, 11), (48, .iload 4, 2, 4, 0),
  (50, .iadd, 1, 0, 0), (51, .ishl, 1, 0, 0), (52, .goto 4, 3, 56, 0), (55, .iconst 0, 1, 0, 0), (56, .iconst 0, 1, 0, 0), (57, .invokevirtual 62, 3, 53, 2),
  (60, .iconst 0, 1, 0, 0), (61, .istore 5, 2, 5, 0), (63, .iload 5, 2, 5, 0), (65, .aload_n 0, 1, 0, 0), (66, .getfield 29, 3, 4, 1), (69, .getfield 43, 3, 9, 12),
  (72, .if_icmp .ge 66, 3, 138, 0), (75, .iconst 0, 1, 0, 0), (76, .istore 6, 2, 6, 0), (78, .iload 6, 2, 6, 0), (80, .aload_n 0, 1, 0, 0), (81, .getfield 25, 3, 4, 0),
  (84, .getfield 65, 3, 7, 4), (87, .if_icmp .ge 45, 3, 132, 0), (90, .aload_n 3, 1, 3, 0), (91, .iload 4, 2, 4, 0), (93, .aaload, 1, 0, 0), (94, .iload 5, 2, 5, 0),
  (96, .bipush 6, 2, 6, 0), (98, .imul, 1, 0, 0), (99, .iload 6, 2, 6, 0), (101, .iadd, 1, 0, 0), (102, .aload_n 0, 1, 0, 0), (103, .getfield 29, 3, 4, 1),
  (106, .getfield 68, 3, 9, 1), (109, .iload 5, 2, 5, 0), (111, .iconst 1, 1, 1, 0), (112, .iadd, 1, 0, 0), (113, .aaload, 1, 0, 0), (114, .aload_n 0, 1, 0, 0),
  (115, .getfield 25, 3, 4, 0), (118, .getfield 71, 3, 7, 6), (121, .iload 6, 2, 6, 0), (123, .iaload, 1, 0, 0), (124, .iaload, 1, 0, 0), (125, .iastore, 1, 0, 0),
  (126, .iinc 6 1, 3, 1, 0), (129, .goto (-51), 3, 78, 0), (132, .iinc 5 1, 3, 1, 0), (135, .goto (-72), 3, 63, 0), (138, .iinc 4 1, 3, 1, 0), (141, .goto (-129), 3, 12, 0),
  (144, .return_, 1, 0, 0)]
def gc_19 : List gc_O := [
  (0, .iload_n 1, 1, 1, 0), (1, .aload_n 0, 1, 0, 0), (2, .getfield 29, 3, 4, 1), (5, .getfield 43, 3, 9, 12), (8, .if_icmp .ge 14, 3, 22, 0), (11, .aload_n 0, 1, 0, 0),
  (12, .getfield 25, 3, 4, 0), (15, .getfield 75, 3, 7, 2), (18, .ineg, 1, 0, 0), (19, .goto 4, 3, 23, 0), (22, .iconst 0, 1, 0, 0), (23, .istore_n 3, 1, 3, 0),
  (24, .iload_n 2, 1, 2, 0), (25, .aload_n 0, 1, 0, 0), (26, .getfield 29, 3, 4, 1), (29, .getfield 43, 3, 9, 12), (32, .if_icmp .ge 14, 3, 46, 0), (35, .aload_n 0, 1, 0, 0),
  (36, .getfield 25, 3, 4, 0), (39, .getfield 75, 3, 7, 2), (42, .ineg, 1, 0, 0), (43, .goto 4, 3, 47, 0), (46, .iconst 0, 1, 0, 0), (47, .istore 4, 2, 4, 0),
  (49, .iconst 0, 1, 0, 0), (50, .istore 5, 2, 5, 0), (52, .iload 5, 2, 5, 0), (54, .aload_n 0, 1, 0, 0), (55, .getfield 29, 3, 4, 1), (58, .getfield 43, 3, 9, 12),
  (61, .if_icmp .ge 158, 3, 219, 0), (64, .aload_n 0, 1, 0, 0), (65, .getfield 25, 3, 4, 0), (68, .getfield 78, 3, 7, 5), (71, .aload_n 0, 1, 0, 0), (72, .getfield 29, 3, 4, 1),
  (75, .getfield 59, 3, 9, 11), (78, .iload 5, 2, 5, 0), (80, .iadd, 1, 0, 0), (81, .iaload, 1, 0, 0), (82, .iconst 1, 1, 1, 0), (83, .if_icmp .ne 7, 3, 90, 0),
  (86, .iconst 1, 1, 1, 0), (87, .goto 4, 3, 91, 0), (90, .iconst 0, 1, 0, 0), (91, .istore 6, 2, 6, 0), (93, .iconst 0, 1, 0, 0), (94, .istore 7, 2, 7, 0),
  (96, .iload 7, 2, 7, 0), (98, .aload_n 0, 1, 0, 0), (99, .getfield 25, 3, 4, 0), (102, .getfield 65, 3, 7, 4), (105, .if_icmp .ge 108, 3, 213, 0), (108, .aload_n 0, 1, 0, 0),
  (109, .getfield 11, 3, 4, 2), (112, .iload_n 1, 1, 1, 0), (113, .aaload, 1, 0, 0), (114, .iload 5, 2, 5, 0), (116, .bipush 6, 2, 6, 0), (118, .imul, 1, 0, 0),
  (119, .iload 7, 2, 7, 0), (121, .iadd, 1, 0, 0), (122, .iaload, 1, 0, 0), (123, .istore 8, 2, 8, 0), (125, .aload_n 0, 1, 0, 0), (126, .getfield 16, 3, 4, 3),
  (129, .iload_n 2, 1, 2, 0), (130, .aaload, 1, 0, 0), (131, .iload 5, 2, 5, 0), (133, .bipush 6, 2, 6, 0), (135, .imul, 1, 0, 0), (136, .iload 7, 2, 7, 0),
  (138, .iadd, 1, 0, 0), (139, .iaload, 1, 0, 0), (140, .istore 9, 2, 9, 0), (142, .aload_n 0, 1, 0, 0), (143, .getfield 25, 3, 4, 0), (146, .iload 7, 2, 7, 0),
  (148, .iload 8, 2, 8, 0), (150, .iload 9, 2, 9, 0), (152, .invokestatic 81, 3, 1002, 2), (155, .aload_n 0, 1, 0, 0), (156, .getfield 25, 3, 4, 0), (159, .getfield 87, 3, 7, 7),
  (162, .iload 7, 2, 7, 0), (164, .iaload, 1, 0, 0), (165, .if_icmp .lt 7, 3, 172, 0), (168, .iconst 1, 1, 1, 0), (169, .goto 4, 3, 173, 0), (172, .iconst 0, 1, 0, 0),
  (173, .iload 6, 2, 6, 0), (175, .invokevirtual 90, 3, 36, 3), (178, .istore 10, 2, 10, 0), (180, .iload 10, 2, 10, 0), (182, .ifCond .le 20, 3, 202, 0), (185, .iload 9, 2, 9, 0),
  (187, .iload 8, 2, 8, 0), (189, .if_icmp .le 13, 3, 202, 0), (192, .iload 4, 2, 4, 0), (194, .iload 10, 2, 10, 0), (196, .iadd, 1, 0, 0), (197, .istore 4, 2, 4, 0),
  (199, .goto 8, 3, 207, 0), (202, .iload_n 3, 1, 3, 0), (203, .iload 10, 2, 10, 0), (205, .iadd, 1, 0, 0), (206, .istore_n 3, 1, 3, 0), (207, .iinc 7 1, 3, 1, 0),
  (210, .goto (-114), 3, 96, 0), (213, .iinc 5 1, 3, 1, 0), (216, .goto (-164), 3, 52, 0), (219, .aload_n 0, 1, 0, 0), (220, .getfield 19, 3, 4, 4), (223, .iload_n 1, 1, 1, 0),
  (224, .aaload, 1, 0, 0), (225, .iload_n 2, 1, 2, 0), (226, .iload_n 3, 1, 3, 0), (227, .iastore, 1, 0, 0), (228, .aload_n 0, 1, 0, 0), (229, .getfield 22, 3, 4, 5),
  (232, .iload_n 1, 1, 1, 0), (233, .aaload, 1, 0, 0), (234, .iload_n 2, 1, 2, 0), (235, .iload 4, 2, 4, 0), (237, .iastore, 1, 0, 0), (238, .return_, 1, 0, 0)]
def gc_20 : List gc_O := [
  (0, .aload_n 0, 1, 0, 0), (1, .iconst 0, 1, 0, 0), (2, .putfield 94, 3, 4, 6), (5, .aload_n 0, 1, 0, 0), (6, .bipush (-99), 2, 99, 1), (8, .putfield 97, 3, 4, 7),
  (11, .iconst 0, 1, 0, 0), (12, .istore_n 1, 1, 1, 0), (13, .iload_n 1, 1, 1, 0), (14, .aload_n 0, 1, 0, 0), (15, .getfield 29, 3, 4, 1), (18, .getfield 43, 3, 9, 12),
  (21, .if_icmp .gt 73, 3, 94, 0), (24, .iconst 0, 1, 0, 0), (25, .istore_n 2, 1, 2, 0), (26, .iload_n 2, 1, 2, 0), (27, .aload_n 0, 1, 0, 0), (28, .getfield 29, 3, 4, 1),
  (31, .getfield 43, 3, 9, 12), (34, .if_icmp .gt 54, 3, 88, 0), (37, .aload_n 0, 1, 0, 0), (38, .iload_n 1, 1, 1, 0), (39, .iload_n 2, 1, 2, 0), (40, .invokevirtual 100, 3, 21, 2),
  (43, .ifCond .eq 39, 3, 82, 0), (46, .aload_n 0, 1, 0, 0), (47, .dup, 1, 0, 0), (48, .getfield 94, 3, 4, 6), (51, .iconst 1, 1, 1, 0), (52, .iadd, 1, 0, 0),
  (53, .putfield 94, 3, 4, 6), (56, .aload_n 0, 1, 0, 0), (57, .getfield 94, 3, 4, 6), (60, .iconst 1, 1, 1, 0), (61, .if_icmp .ne 21, 3, 82, 0), (64, .aload_n 0, 1, 0, 0),
  (65, .bipush 10, 2, 10, 0), (67, .aload_n 0, 1, 0, 0), (68, .iload_n 1, 1, 1, 0), (69, .invokevirtual 104, 3, 22, 1), (72, .imul, 1, 0, 0), (73, .aload_n 0, 1, 0, 0),
  (74, .iload_n 2, 1, 2, 0), (75, .invokevirtual 104, 3, 22, 1), (78, .iadd, 1, 0, 0), (79, .putfield 97, 3, 4, 7), (82, .iinc 2 1, 3, 1, 0), (85, .goto (-59), 3, 26, 0),
  (88, .iinc 1 1, 3, 1, 0), (91, .goto (-78), 3, 13, 0), (94, .return_, 1, 0, 0)]
def gc_21 : List gc_O := [
  (0, .iconst 0, 1, 0, 0), (1, .istore_n 3, 1, 3, 0), (2, .iload_n 3, 1, 3, 0), (3, .aload_n 0, 1, 0, 0), (4, .getfield 29, 3, 4, 1), (7, .getfield 43, 3, 9, 12),
  (10, .if_icmp .gt 49, 3, 59, 0), (13, .aload_n 0, 1, 0, 0), (14, .getfield 19, 3, 4, 4), (17, .iload_n 3, 1, 3, 0), (18, .aaload, 1, 0, 0), (19, .iload_n 2, 1, 2, 0),
  (20, .iaload, 1, 0, 0), (21, .aload_n 0, 1, 0, 0), (22, .getfield 19, 3, 4, 4), (25, .iload_n 1, 1, 1, 0), (26, .aaload, 1, 0, 0), (27, .iload_n 2, 1, 2, 0),
  (28, .iaload, 1, 0, 0), (29, .if_icmp .gt 22, 3, 51, 0), (32, .aload_n 0, 1, 0, 0), (33, .getfield 22, 3, 4, 5), (36, .iload_n 1, 1, 1, 0), (37, .aaload, 1, 0, 0),
  (38, .iload_n 3, 1, 3, 0), (39, .iaload, 1, 0, 0), (40, .aload_n 0, 1, 0, 0), (41, .getfield 22, 3, 4, 5), (44, .iload_n 1, 1, 1, 0), (45, .aaload, 1, 0, 0),
  (46, .iload_n 2, 1, 2, 0), (47, .iaload, 1, 0, 0), (48, .if_icmp .le 5, 3, 53, 0), (51, .iconst 0, 1, 0, 0), (52, .ireturn, 1, 0, 0), (53, .iinc 3 1, 3, 1, 0),
  (56, .goto (-54), 3, 2, 0), (59, .iconst 1, 1, 1, 0), (60, .ireturn, 1, 0, 0)]
def gc_22 : List gc_O := [
  (0, .iload_n 1, 1, 1, 0), (1, .aload_n 0, 1, 0, 0), (2, .getfield 29, 3, 4, 1), (5, .getfield 43, 3, 9, 12), (8, .if_icmp .ge 15, 3, 23, 0), (11, .aload_n 0, 1, 0, 0),
  (12, .getfield 29, 3, 4, 1), (15, .getfield 59, 3, 9, 11), (18, .iload_n 1, 1, 1, 0), (19, .iadd, 1, 0, 0), (20, .goto 5, 3, 25, 0), (23, .bipush 9, 2, 9, 0),
  (25, .ireturn, 1, 0, 0)]
def gc_23 : List gc_O := [
  (0, .aload_n 0, 1, 0, 0), (1, .invokespecial 3, 3, 1000, 0), (4, .aload_n 0, 1, 0, 0), (5, .bipush 6, 2, 6, 0), (7, .newarray .int, 2, 12, 0), (9, .putfield 9, 3, 5, 0),
  (12, .aload_n 0, 1, 0, 0), (13, .bipush 6, 2, 6, 0), (15, .newarray .int, 2, 12, 0), (17, .putfield 15, 3, 5, 1), (20, .aload_n 0, 1, 0, 0), (21, .bipush 6, 2, 6, 0),
  (23, .newarray .boolean, 2, 13, 0), (25, .putfield 18, 3, 5, 2), (28, .return_, 1, 0, 0)]
def gc_24 : List gc_O := [
  (0, .aload_n 0, 1, 0, 0), (1, .getfield 22, 3, 5, 3), (4, .bipush 6, 2, 6, 0), (6, .if_icmp .lt 5, 3, 11, 0), (9, .iconst 0, 1, 0, 0), (10, .ireturn, 1, 0, 0),
  (11, .aload_n 0, 1, 0, 0), (12, .getfield 9, 3, 5, 0), (15, .aload_n 0, 1, 0, 0), (16, .getfield 22, 3, 5, 3), (19, .iload_n 1, 1, 1, 0), (20, .iastore, 1, 0, 0),
  (21, .aload_n 0, 1, 0, 0), (22, .getfield 15, 3, 5, 1), (25, .aload_n 0, 1, 0, 0), (26, .getfield 22, 3, 5, 3), (29, .iload_n 2, 1, 2, 0), (30, .iastore, 1, 0, 0),
  (31, .aload_n 0, 1, 0, 0), (32, .getfield 18, 3, 5, 2), (35, .aload_n 0, 1, 0, 0), (36, .getfield 22, 3, 5, 3), (39, .iload_n 3, 1, 3, 0), (40, .bastore, 1, 0, 0),
  (41, .aload_n 0, 1, 0, 0), (42, .dup, 1, 0, 0), (43, .getfield 22, 3, 5, 3), (46, .iconst 1, 1, 1, 0), (47, .iadd, 1, 0, 0), (48, .putfield 22, 3, 5, 3),
  (51, .iconst 1, 1, 1, 0), (52, .ireturn, 1, 0, 0)]
def gc_25 : List gc_O := [
  (0, .aload_n 0, 1, 0, 0), (1, .iconst 0, 1, 0, 0), (2, .putfield 26, 3, 5, 4), (5, .aload_n 0, 1, 0, 0), (6, .aload_n 2, 1, 2, 0), (7, .invokevirtual 29, 3, 51, 0),
  (10, .iconst 1, 1, 1, 0), (11, .isub, 1, 0, 0), (12, .putfield 35, 3, 5, 5), (15, .aload_n 0, 1, 0, 0), (16, .aload_n 0, 1, 0, 0), (17, .getfield 35, 3, 5, 5),
  (20, .putfield 38, 3, 5, 6), (23, .iconst 0, 1, 0, 0), (24, .istore_n 3, 1, 3, 0), (25, .iload_n 3, 1, 3, 0), (26, .aload_n 2, 1, 2, 0), (27, .invokevirtual 29, 3, 51, 0),
  (30, .if_icmp .ge 66, 3, 96, 0), (33, .aload_n 2, 1, 2, 0), (34, .iload_n 3, 1, 3, 0), (35, .invokevirtual 41, 3, 52, 1), (38, .istore 4, 2, 4, 0), (40, .aload_n 2, 1, 2, 0),
  (41, .iload 4, 2, 4, 0), (43, .iconst 0, 1, 0, 0), (44, .invokevirtual 45, 3, 53, 2), (47, .aload_n 0, 1, 0, 0), (48, .aload_n 1, 1, 1, 0), (49, .aload_n 2, 1, 2, 0),
  (50, .invokevirtual 49, 3, 26, 2), (53, .ifCond .eq 37, 3, 90, 0), (56, .aload_n 0, 1, 0, 0), (57, .dup, 1, 0, 0), (58, .getfield 26, 3, 5, 4), (61, .iconst 1, 1, 1, 0),
  (62, .iadd, 1, 0, 0), (63, .putfield 26, 3, 5, 4), (66, .aload_n 0, 1, 0, 0), (67, .dup, 1, 0, 0), (68, .getfield 35, 3, 5, 5), (71, .iload 4, 2, 4, 0),
  (73, .iand, 1, 0, 0), (74, .putfield 35, 3, 5, 5), (77, .aload_n 0, 1, 0, 0), (78, .dup, 1, 0, 0), (79, .getfield 38, 3, 5, 6), (82, .iload 4, 2, 4, 0),
  (84, .iconst (-1), 1, 1, 1), (85, .ixor, 1, 0, 0), (86, .iand, 1, 0, 0), (87, .putfield 38, 3, 5, 6), (90, .iinc 3 1, 3, 1, 0), (93, .goto (-68), 3, 25, 0),
  (96, .return_, 1, 0, 0)]
def gc_26 : List gc_O := [
  (0, .iconst 0, 1, 0, 0), (1, .istore_n 3, 1, 3, 0), (2, .iload_n 3, 1, 3, 0), (3, .aload_n 0, 1, 0, 0), (4, .getfield 22, 3, 5, 3), (7, .if_icmp .ge 80, 3, 87, 0),
  (10, .aload_n 0, 1, 0, 0), (11, .getfield 9, 3, 5, 0), (14, .iload_n 3, 1, 3, 0), (15, .iaload, 1, 0, 0), (16, .aload_n 1, 1, 1, 0), (17, .getfield 53, 3, 7, 4),
  (20, .if_icmp .ge 20, 3, 40, 0), (23, .aload_n 0, 1, 0, 0), (24, .getfield 15, 3, 5, 1), (27, .iload_n 3, 1, 3, 0), (28, .iaload, 1, 0, 0), (29, .aload_n 1, 1, 1, 0),
  (30, .getfield 57, 3, 7, 3), (33, .if_icmp .ge 7, 3, 40, 0), (36, .iconst 1, 1, 1, 0), (37, .goto 4, 3, 41, 0), (40, .iconst 0, 1, 0, 0), (41, .istore 4, 2, 4, 0),
  (43, .iload 4, 2, 4, 0), (45, .ifCond .eq 36, 3, 81, 0), (48, .aload_n 2, 1, 2, 0), (49, .getfield 60, 3, 9, 5), (52, .aload_n 0, 1, 0, 0), (53, .getfield 15, 3, 5, 1),
  (56, .iload_n 3, 1, 3, 0), (57, .iaload, 1, 0, 0), (58, .iconst 1, 1, 1, 0), (59, .iadd, 1, 0, 0), (60, .iaload, 1, 0, 0), (61, .aload_n 0, 1, 0, 0),
  (62, .getfield 9, 3, 5, 0), (65, .iload_n 3, 1, 3, 0), (66, .iaload, 1, 0, 0), (67, .invokestatic 63, 3, 96, 2), (70, .aload_n 0, 1, 0, 0), (71, .getfield 18, 3, 5, 2),
  (74, .iload_n 3, 1, 3, 0), (75, .baload, 1, 0, 0), (76, .if_icmp .eq 5, 3, 81, 0), (79, .iconst 0, 1, 0, 0), (80, .ireturn, 1, 0, 0), (81, .iinc 3 1, 3, 1, 0),
  (84, .goto (-82), 3, 2, 0), (87, .iconst 1, 1, 1, 0), (88, .ireturn, 1, 0, 0)]
def gc_27 : List gc_O := [
  (0, .aload_n 0, 1, 0, 0), (1, .invokespecial 3, 3, 1000, 0), (4, .aload_n 0, 1, 0, 0), (5, .iconst 2, 1, 2, 0), (6, .anewarray 9, 3, 14, 0), (9, .putfield 11, 3, 6, 0),
  (12, .aload_n 0, 1, 0, 0), (13, .iconst 2, 1, 2, 0), (14, .newarray .boolean, 2, 13, 0), (16, .putfield 17, 3, 6, 1), (19, .iconst 0, 1, 0, 0), (20, .istore_n 1, 1, 1, 0),
  (21, .iload_n 1, 1, 1, 0), (22, .iconst 2, 1, 2, 0), (23, .if_icmp .ge 22, 3, 45, 0), (26, .aload_n 0, 1, 0, 0), (27, .getfield 11, 3, 6, 0), (30, .iload_n 1, 1, 1, 0),
  (31, .new 9, 3, 3, 0), (34, .dup, 1, 0, 0), (35, .invokespecial 21, 3, 12, 0), (38, .aastore, 1, 0, 0), (39, .iinc 1 1, 3, 1, 0), (42, .goto (-21), 3, 21, 0),
  (45, .return_, 1, 0, 0)]
def gc_28 : List gc_O := [
  (0, .iconst 0, 1, 0, 0), (1, .istore_n 1, 1, 1, 0), (2, .iload_n 1, 1, 1, 0), (3, .iconst 2, 1, 2, 0), (4, .if_icmp .ge 16, 3, 20, 0), (7, .aload_n 0, 1, 0, 0),
  (8, .getfield 17, 3, 6, 1), (11, .iload_n 1, 1, 1, 0), (12, .iconst 0, 1, 0, 0), (13, .bastore, 1, 0, 0), (14, .iinc 1 1, 3, 1, 0), (17, .goto (-15), 3, 2, 0),
  (20, .return_, 1, 0, 0)]
def gc_29 : List gc_O := [
  (0, .aload_n 0, 1, 0, 0), (1, .getfield 11, 3, 6, 0), (4, .iload_n 1, 1, 1, 0), (5, .aaload, 1, 0, 0), (6, .aload_n 2, 1, 2, 0), (7, .invokevirtual 22, 3, 15, 1),
  (10, .aload_n 0, 1, 0, 0), (11, .getfield 17, 3, 6, 1), (14, .iload_n 1, 1, 1, 0), (15, .iconst 1, 1, 1, 0), (16, .bastore, 1, 0, 0), (17, .return_, 1, 0, 0)]
def gc_30 : List gc_O := [
  (0, .aload_n 0, 1, 0, 0), (1, .getfield 17, 3, 6, 1), (4, .iload_n 1, 1, 1, 0), (5, .baload, 1, 0, 0), (6, .ifCond .eq 13, 3, 19, 0), (9, .aload_n 2, 1, 2, 0),
  (10, .aload_n 0, 1, 0, 0), (11, .getfield 11, 3, 6, 0), (14, .iload_n 1, 1, 1, 0), (15, .aaload, 1, 0, 0), (16, .invokevirtual 22, 3, 15, 1), (19, .aload_n 0, 1, 0, 0),
  (20, .getfield 17, 3, 6, 1), (23, .iload_n 1, 1, 1, 0), (24, .baload, 1, 0, 0), (25, .ireturn, 1, 0, 0)]
def gc_31 : List gc_O := [
  (0, .aload_n 0, 1, 0, 0), (1, .invokespecial 3, 3, 1000, 0), (4, .aload_n 0, 1, 0, 0), (5, .iconst 1, 1, 1, 0), (6, .putfield 9, 3, 7, 1), (9, .aload_n 0, 1, 0, 0),
  (10, .bipush 8, 2, 8, 0), (12, .newarray .int, 2, 12, 0), (14, .putfield 15, 3, 7, 5), (17, .aload_n 0, 1, 0, 0), (18, .bipush 6, 2, 6, 0), (20, .newarray .int, 2, 12, 0),
  (22, .putfield 19, 3, 7, 6), (25, .aload_n 0, 1, 0, 0), (26, .bipush 6, 2, 6, 0), (28, .newarray .int, 2, 12, 0), (30, .putfield 22, 3, 7, 7), (33, .aload_n 0, 1, 0, 0),
  (34, .bipush 6, 2, 6, 0), (36, .newarray .int, 2, 12, 0), (38, .putfield 25, 3, 7, 8), (41, .aload_n 0, 1, 0, 0), (42, .bipush 6, 2, 6, 0), (44, .newarray .int, 2, 12, 0),
  (46, .putfield 28, 3, 7, 9), (49, .return_, 1, 0, 0)]
def gc_32 : List gc_O := [
  (0, .aload_n 0, 1, 0, 0), (1, .aload_n 1, 1, 1, 0), (2, .iconst 1, 1, 1, 0), (3, .invokevirtual 31, 3, 40, 1), (6, .putfield 37, 3, 7, 0), (9, .aload_n 0, 1, 0, 0),
  (10, .aload_n 1, 1, 1, 0), (11, .iconst 2, 1, 2, 0), (12, .invokevirtual 31, 3, 40, 1), (15, .putfield 9, 3, 7, 1), (18, .aload_n 0, 1, 0, 0), (19, .aload_n 1, 1, 1, 0),
  (20, .iconst 3, 1, 3, 0), (21, .invokevirtual 31, 3, 40, 1), (24, .putfield 40, 3, 7, 2), (27, .aload_n 0, 1, 0, 0), (28, .aload_n 1, 1, 1, 0), (29, .invokevirtual 43, 3, 41, 0),
  (32, .putfield 47, 3, 7, 3), (35, .iconst 0, 1, 0, 0), (36, .istore_n 2, 1, 2, 0), (37, .iload_n 2, 1, 2, 0), (38, .aload_n 0, 1, 0, 0), (39, .getfield 47, 3, 7, 3),
  (42, .if_icmp .ge 25, 3, 67, 0), (45, .aload_n 0, 1, 0, 0), (46, .getfield 15, 3, 7, 5), (49, .iload_n 2, 1, 2, 0), (50, .aload_n 1, 1, 1, 0), (51, .iconst 4, 1, 4, 0),
  (52, .iload_n 2, 1, 2, 0), (53, .iadd, 1, 0, 0), (54, .invokevirtual 50, 3, 39, 1), (57, .invokestatic 53, 3, 33, 1), (60, .iastore, 1, 0, 0), (61, .iinc 2 1, 3, 1, 0),
  (64, .goto (-27), 3, 37, 0), (67, .aload_n 0, 1, 0, 0), (68, .aload_n 1, 1, 1, 0), (69, .getfield 56, 3, 8, 1), (72, .iconst 4, 1, 4, 0), (73, .isub, 1, 0, 0),
  (74, .aload_n 0, 1, 0, 0), (75, .getfield 47, 3, 7, 3), (78, .isub, 1, 0, 0), (79, .iconst 5, 1, 5, 0), (80, .idiv, 1, 0, 0), (81, .putfield 59, 3, 7, 4),
  (84, .iconst 0, 1, 0, 0), (85, .istore_n 2, 1, 2, 0), (86, .iload_n 2, 1, 2, 0), (87, .aload_n 0, 1, 0, 0), (88, .getfield 59, 3, 7, 4), (91, .if_icmp .ge 72, 3, 163, 0),
  (94, .iconst 4, 1, 4, 0), (95, .aload_n 0, 1, 0, 0), (96, .getfield 47, 3, 7, 3), (99, .iadd, 1, 0, 0), (100, .iload_n 2, 1, 2, 0), (101, .iconst 5, 1, 5, 0),
  (102, .imul, 1, 0, 0), (103, .iadd, 1, 0, 0), (104, .istore_n 3, 1, 3, 0), (105, .aload_n 0, 1, 0, 0), (106, .getfield 19, 3, 7, 6), (109, .iload_n 2, 1, 2, 0),
  (110, .aload_n 1, 1, 1, 0), (111, .iload_n 3, 1, 3, 0), (112, .iconst 1, 1, 1, 0), (113, .iadd, 1, 0, 0), (114, .invokevirtual 31, 3, 40, 1), (117, .iastore, 1, 0, 0),
  (118, .aload_n 0, 1, 0, 0), (119, .getfield 22, 3, 7, 7), (122, .iload_n 2, 1, 2, 0), (123, .aload_n 1, 1, 1, 0), (124, .iload_n 3, 1, 3, 0), (125, .iconst 2, 1, 2, 0),
  (126, .iadd, 1, 0, 0), (127, .invokevirtual 31, 3, 40, 1), (130, .iastore, 1, 0, 0), (131, .aload_n 0, 1, 0, 0), (132, .getfield 25, 3, 7, 8), (135, .iload_n 2, 1, 2, 0),
  (136, .aload_n 1, 1, 1, 0), (137, .iload_n 3, 1, 3, 0), (138, .iconst 3, 1, 3, 0), (139, .iadd, 1, 0, 0), (140, .invokevirtual 31, 3, 40, 1), (143, .iastore, 1, 0, 0),
  (144, .aload_n 0, 1, 0, 0), (145, .getfield 28, 3, 7, 9), (148, .iload_n 2, 1, 2, 0), (149, .aload_n 1, 1, 1, 0), (150, .iload_n 3, 1, 3, 0), (151, .iconst 4, 1, 4, 0),
  (152, .iadd, 1, 0, 0), (153, .invokevirtual 31, 3, 40, 1), (156, .iastore, 1, 0, 0), (157, .iinc 2 1, 3, 1, 0), (160, .goto (-74), 3, 86, 0), (163, .return_, 1, 0, 0)]
def gc_33 : List gc_O := [
  (0, .iload_n 0, 1, 0, 0), (1, .bipush 69, 2, 69, 0), (3, .if_icmp .ne 5, 3, 8, 0), (6, .iconst 1, 1, 1, 0), (7, .ireturn, 1, 0, 0), (8, .iload_n 0, 1, 0, 0),
  (9, .bipush 87, 2, 87, 0), (11, .if_icmp .ne 7, 3, 18, 0), (14, .iconst (-1), 1, 1, 1), (15, .goto 4, 3, 19, 0), (18, .iconst 0, 1, 0, 0), (19, .ireturn, 1, 0, 0)]
def gc_34 : List gc_O := [
  (0, .iload_n 1, 1, 1, 0), (1, .ifCond .lt 15, 3, 16, 0), (4, .iload_n 1, 1, 1, 0), (5, .aload_n 0, 1, 0, 0), (6, .getfield 59, 3, 7, 4), (9, .if_icmp .ge 7, 3, 16, 0),
  (12, .iconst 1, 1, 1, 0), (13, .goto 4, 3, 17, 0), (16, .iconst 0, 1, 0, 0), (17, .ireturn, 1, 0, 0)]
def gc_35 : List gc_O := [
  (0, .iconst 0, 1, 0, 0), (1, .istore_n 2, 1, 2, 0), (2, .iconst 0, 1, 0, 0), (3, .istore_n 3, 1, 3, 0), (4, .iload_n 3, 1, 3, 0), (5, .aload_n 0, 1, 0, 0),
  (6, .getfield 59, 3, 7, 4), (9, .if_icmp .ge 32, 3, 41, 0), (12, .aload_n 1, 1, 1, 0), (13, .aload_n 0, 1, 0, 0), (14, .getfield 19, 3, 7, 6), (17, .iload_n 3, 1, 3, 0),
  (18, .iaload, 1, 0, 0), (19, .iaload, 1, 0, 0), (20, .aload_n 0, 1, 0, 0), (21, .getfield 22, 3, 7, 7), (24, .iload_n 3, 1, 3, 0), (25, .iaload, 1, 0, 0),
  (26, .if_icmp .lt 9, 3, 35, 0), (29, .iload_n 2, 1, 2, 0), (30, .iconst 1, 1, 1, 0), (31, .iload_n 3, 1, 3, 0), (32, .ishl, 1, 0, 0), (33, .ior, 1, 0, 0),
  (34, .istore_n 2, 1, 2, 0), (35, .iinc 3 1, 3, 1, 0), (38, .goto (-34), 3, 4, 0), (41, .iload_n 2, 1, 2, 0), (42, .ireturn, 1, 0, 0)]
def gc_36 : List gc_O := [
  (0, .aload_n 0, 1, 0, 0), (1, .getfield 28, 3, 7, 9), (4, .iload_n 1, 1, 1, 0), (5, .iaload, 1, 0, 0), (6, .tableswitch 76 0 2 #[26, 41, 57], 26, 0, 0), (32, .iload_n 2, 1, 2, 0),
  (33, .ifCond .eq 12, 3, 45, 0), (36, .aload_n 0, 1, 0, 0), (37, .getfield 25, 3, 7, 8), (40, .iload_n 1, 1, 1, 0), (41, .iaload, 1, 0, 0), (42, .goto 4, 3, 46, 0),
  (45, .iconst 0, 1, 0, 0), (46, .ireturn, 1, 0, 0), (47, .iload_n 2, 1, 2, 0), (48, .ifCond .eq 7, 3, 55, 0), (51, .iconst 0, 1, 0, 0), (52, .goto 10, 3, 62, 0),
  (55, .aload_n 0, 1, 0, 0), (56, .getfield 25, 3, 7, 8), (59, .iload_n 1, 1, 1, 0), (60, .iaload, 1, 0, 0), (61, .ineg, 1, 0, 0), (62, .ireturn, 1, 0, 0),
  (63, .iload_n 2, 1, 2, 0), (64, .ifCond .eq 16, 3, 80, 0), (67, .iload_n 3, 1, 3, 0), (68, .ifCond .eq 12, 3, 80, 0), (71, .aload_n 0, 1, 0, 0), (72, .getfield 25, 3, 7, 8),
  (75, .iload_n 1, 1, 1, 0), (76, .iaload, 1, 0, 0), (77, .goto 4, 3, 81, 0), (80, .iconst 0, 1, 0, 0), (81, .ireturn, 1, 0, 0), (82, .iload_n 2, 1, 2, 0),
  (83, .ifCond .eq 13, 3, 96, 0), (86, .aload_n 0, 1, 0, 0), (87, .getfield 25, 3, 7, 8), (90, .iload_n 1, 1, 1, 0), (91, .iaload, 1, 0, 0), (92, .ineg, 1, 0, 0),
  (93, .goto 4, 3, 97, 0), (96, .iconst 0, 1, 0, 0), (97, .ireturn, 1, 0, 0)]
def gc_37 : List gc_O := [
  (0, .aload_n 0, 1, 0, 0), (1, .invokespecial 3, 3, 1000, 0), (4, .aload_n 0, 1, 0, 0), (5, .bipush 48, 2, 48, 0), (7, .newarray .int, 2, 12, 0), (9, .putfield 9, 3, 8, 0),
  (12, .return_, 1, 0, 0)]
def gc_38 : List gc_O := [
  (0, .aload_n 0, 1, 0, 0), (1, .getfield 15, 3, 8, 1), (4, .bipush 48, 2, 48, 0), (6, .if_icmp .lt 5, 3, 11, 0), (9, .iconst 0, 1, 0, 0), (10, .ireturn, 1, 0, 0),
  (11, .aload_n 0, 1, 0, 0), (12, .getfield 9, 3, 8, 0), (15, .aload_n 0, 1, 0, 0), (16, .getfield 15, 3, 8, 1), (19, .iload_n 1, 1, 1, 0), (20, .iastore, 1, 0, 0),
  (21, .aload_n 0, 1, 0, 0), (22, .dup, 1, 0, 0), (23, .getfield 15, 3, 8, 1), (26, .iconst 1, 1, 1, 0), (27, .iadd, 1, 0, 0), (28, .putfield 15, 3, 8, 1),
  (31, .iconst 1, 1, 1, 0), (32, .ireturn, 1, 0, 0)]
def gc_39 : List gc_O := [
  (0, .iload_n 1, 1, 1, 0), (1, .ifCond .lt 20, 3, 21, 0), (4, .iload_n 1, 1, 1, 0), (5, .aload_n 0, 1, 0, 0), (6, .getfield 15, 3, 8, 1), (9, .if_icmp .ge 12, 3, 21, 0),
  (12, .aload_n 0, 1, 0, 0), (13, .getfield 9, 3, 8, 0), (16, .iload_n 1, 1, 1, 0), (17, .iaload, 1, 0, 0), (18, .goto 4, 3, 22, 0), (21, .iconst 0, 1, 0, 0),
  (22, .ireturn, 1, 0, 0)]
def gc_40 : List gc_O := [
  (0, .aload_n 0, 1, 0, 0), (1, .iload_n 1, 1, 1, 0), (2, .invokevirtual 19, 3, 39, 1), (5, .bipush 48, 2, 48, 0), (7, .isub, 1, 0, 0), (8, .ireturn, 1, 0, 0)]
def gc_41 : List gc_O := [
  (0, .iconst 0, 1, 0, 0), (1, .istore_n 1, 1, 1, 0), (2, .iload_n 1, 1, 1, 0), (3, .bipush 8, 2, 8, 0), (5, .if_icmp .ge 22, 3, 27, 0), (8, .aload_n 0, 1, 0, 0),
  (9, .iconst 4, 1, 4, 0), (10, .iload_n 1, 1, 1, 0), (11, .iadd, 1, 0, 0), (12, .invokevirtual 19, 3, 39, 1), (15, .invokestatic 23, 3, 48, 1), (18, .ifCond .eq 9, 3, 27, 0),
  (21, .iinc 1 1, 3, 1, 0), (24, .goto (-22), 3, 2, 0), (27, .iload_n 1, 1, 1, 0), (28, .ireturn, 1, 0, 0)]
def gc_42 : List gc_O := [
  (0, .aload_n 0, 1, 0, 0), (1, .invokevirtual 27, 3, 41, 0), (4, .istore_n 1, 1, 1, 0), (5, .iconst 0, 1, 0, 0), (6, .istore_n 2, 1, 2, 0), (7, .iload_n 2, 1, 2, 0),
  (8, .aload_n 0, 1, 0, 0), (9, .getfield 15, 3, 8, 1), (12, .if_icmp .ge 20, 3, 32, 0), (15, .aload_n 0, 1, 0, 0), (16, .iload_n 2, 1, 2, 0), (17, .iload_n 1, 1, 1, 0),
  (18, .invokevirtual 31, 3, 44, 2), (21, .ifCond .ne 5, 3, 26, 0), (24, .iload_n 2, 1, 2, 0), (25, .ireturn, 1, 0, 0), (26, .iinc 2 1, 3, 1, 0), (29, .goto (-22), 3, 7, 0),
  (32, .aload_n 0, 1, 0, 0), (33, .iload_n 1, 1, 1, 0), (34, .invokevirtual 35, 3, 43, 1), (37, .ifCond .eq 8, 3, 45, 0), (40, .bipush (-99), 2, 99, 1), (42, .goto 7, 3, 49, 0),
  (45, .aload_n 0, 1, 0, 0), (46, .getfield 15, 3, 8, 1), (49, .ireturn, 1, 0, 0)]
def gc_43 : List gc_O := [
  (0, .aload_n 0, 1, 0, 0), (1, .getfield 15, 3, 8, 1), (4, .iconst 4, 1, 4, 0), (5, .if_icmp .lt 20, 3, 25, 0), (8, .aload_n 0, 1, 0, 0), (9, .getfield 15, 3, 8, 1),
  (12, .iconst 4, 1, 4, 0), (13, .isub, 1, 0, 0), (14, .iload_n 1, 1, 1, 0), (15, .isub, 1, 0, 0), (16, .iconst 5, 1, 5, 0), (17, .irem, 1, 0, 0),
  (18, .ifCond .ne 7, 3, 25, 0), (21, .iconst 1, 1, 1, 0), (22, .goto 4, 3, 26, 0), (25, .iconst 0, 1, 0, 0), (26, .ireturn, 1, 0, 0)]
def gc_44 : List gc_O := [
  (0, .iload_n 1, 1, 1, 0), (1, .iconst 4, 1, 4, 0), (2, .if_icmp .ge 9, 3, 11, 0), (5, .aload_n 0, 1, 0, 0), (6, .iload_n 1, 1, 1, 0), (7, .invokevirtual 38, 3, 45, 1),
  (10, .ireturn, 1, 0, 0), (11, .iload_n 1, 1, 1, 0), (12, .iconst 4, 1, 4, 0), (13, .isub, 1, 0, 0), (14, .iload_n 2, 1, 2, 0), (15, .isub, 1, 0, 0),
  (16, .istore_n 3, 1, 3, 0), (17, .iload_n 3, 1, 3, 0), (18, .ifCond .lt 20, 3, 38, 0), (21, .iload_n 3, 1, 3, 0), (22, .bipush 30, 2, 30, 0), (24, .if_icmp .ge 18, 3, 42, 0),
  (27, .aload_n 0, 1, 0, 0), (28, .iload_n 1, 1, 1, 0), (29, .iload_n 3, 1, 3, 0), (30, .iconst 5, 1, 5, 0), (31, .irem, 1, 0, 0), (32, .invokevirtual 41, 3, 46, 2),
  (35, .ifCond .eq 7, 3, 42, 0), (38, .iconst 1, 1, 1, 0), (39, .goto 4, 3, 43, 0), (42, .iconst 0, 1, 0, 0), (43, .ireturn, 1, 0, 0)]
def gc_45 : List gc_O := [
  (0, .iload_n 1, 1, 1, 0), (1, .ifCond .ne 19, 3, 20, 0), (4, .aload_n 0, 1, 0, 0), (5, .iload_n 1, 1, 1, 0), (6, .invokevirtual 19, 3, 39, 1), (9, .bipush 83, 2, 83, 0),
  (11, .if_icmp .ne 7, 3, 18, 0), (14, .iconst 1, 1, 1, 0), (15, .goto 4, 3, 19, 0), (18, .iconst 0, 1, 0, 0), (19, .ireturn, 1, 0, 0), (20, .aload_n 0, 1, 0, 0),
  (21, .iload_n 1, 1, 1, 0), (22, .iload_n 1, 1, 1, 0), (23, .iconst 2, 1, 2, 0), (24, .if_icmp .ne 7, 3, 31, 0), (27, .iconst 1, 1, 1, 0), (28, .goto 4, 3, 32, 0),
  (31, .iconst 0, 1, 0, 0), (32, .bipush 9, 2, 9, 0), (34, .invokevirtual 44, 3, 47, 3), (37, .ireturn, 1, 0, 0)]
def gc_46 : List gc_O := [
  (0, .iload_n 2, 1, 2, 0), (1, .ifCond .ne 19, 3, 20, 0), (4, .aload_n 0, 1, 0, 0), (5, .iload_n 1, 1, 1, 0), (6, .invokevirtual 19, 3, 39, 1), (9, .bipush 78, 2, 78, 0),
  (11, .if_icmp .ne 7, 3, 18, 0), (14, .iconst 1, 1, 1, 0), (15, .goto 4, 3, 19, 0), (18, .iconst 0, 1, 0, 0), (19, .ireturn, 1, 0, 0), (20, .aload_n 0, 1, 0, 0),
  (21, .iload_n 1, 1, 1, 0), (22, .iload_n 2, 1, 2, 0), (23, .iconst 2, 1, 2, 0), (24, .if_icmp .ne 7, 3, 31, 0), (27, .iconst 1, 1, 1, 0), (28, .goto 4, 3, 32, 0),
  (31, .iconst 0, 1, 0, 0), (32, .iload_n 2, 1, 2, 0), (33, .iconst 4, 1, 4, 0), (34, .if_icmp .ne 7, 3, 41, 0), (37, .iconst 3, 1, 3, 0), (38, .goto 5, 3, 43, 0),
  (41, .bipush 9, 2, 9, 0), (43, .invokevirtual 44, 3, 47, 3), (46, .ireturn, 1, 0, 0)]
def gc_47 : List gc_O := [
  (0, .aload_n 0, 1, 0, 0), (1, .iload_n 1, 1, 1, 0), (2, .invokevirtual 48, 3, 40, 1), (5, .iload_n 2, 1, 2, 0), (6, .if_icmp .lt 16, 3, 22, 0), (9, .aload_n 0, 1, 0, 0),
  (10, .iload_n 1, 1, 1, 0), (11, .invokevirtual 48, 3, 40, 1), (14, .iload_n 3, 1, 3, 0), (15, .if_icmp .gt 7, 3, 22, 0), (18, .iconst 1, 1, 1, 0), (19, .goto 4, 3, 23, 0),
  (22, .iconst 0, 1, 0, 0), (23, .ireturn, 1, 0, 0)]
def gc_48 : List gc_O := [
  (0, .iload_n 0, 1, 0, 0), (1, .bipush 69, 2, 69, 0), (3, .if_icmp .eq 15, 3, 18, 0), (6, .iload_n 0, 1, 0, 0), (7, .bipush 87, 2, 87, 0), (9, .if_icmp .eq 9, 3, 18, 0),
  (12, .iload_n 0, 1, 0, 0), (13, .bipush 45, 2, 45, 0), (15, .if_icmp .ne 7, 3, 22, 0), (18, .iconst 1, 1, 1, 0), (19, .goto 4, 3, 23, 0), (22, .iconst 0, 1, 0, 0),
  (23, .ireturn, 1, 0, 0)]
def gc_49 : List gc_O := [
  (0, .aload_n 0, 1, 0, 0), (1, .invokespecial 3, 3, 1000, 0), (4, .aload_n 0, 1, 0, 0), (5, .bipush 9, 2, 9, 0), (7, .bipush 10, 2, 10, 0), (9, .multianewarray 9 2, 4, 15, 0),
  (13, .putfield 11, 3, 9, 1), (16, .aload_n 0, 1, 0, 0), (17, .bipush 9, 2, 9, 0), (19, .bipush 6, 2, 6, 0), (21, .multianewarray 9 2, 4, 15, 0), (25, .putfield 16, 3, 9, 2),
  (28, .aload_n 0, 1, 0, 0), (29, .bipush 9, 2, 9, 0), (31, .newarray .int, 2, 12, 0), (33, .putfield 19, 3, 9, 3), (36, .aload_n 0, 1, 0, 0), (37, .bipush 9, 2, 9, 0),
  (39, .newarray .int, 2, 12, 0), (41, .putfield 23, 3, 9, 4), (44, .aload_n 0, 1, 0, 0), (45, .bipush 9, 2, 9, 0), (47, .newarray .int, 2, 12, 0), (49, .putfield 26, 3, 9, 5),
  (52, .aload_n 0, 1, 0, 0), (53, .aload_n 1, 1, 1, 0), (54, .putfield 29, 3, 9, 0), (57, .return_, 1, 0, 0)]
def gc_50 : List gc_O := [
  (0, .aload_n 1, 1, 1, 0), (1, .getfield 33, 3, 3, 0), (4, .iconst 0, 1, 0, 0), (5, .aload_n 0, 1, 0, 0), (6, .getfield 11, 3, 9, 1), (9, .iconst 0, 1, 0, 0),
  (10, .aaload, 1, 0, 0), (11, .iconst 0, 1, 0, 0), (12, .bipush 10, 2, 10, 0), (14, .invokestatic 37, 3, 1001, 5), (17, .aload_n 0, 1, 0, 0), (18, .aload_n 1, 1, 1, 0),
  (19, .getfield 43, 3, 3, 1), (22, .putfield 47, 3, 9, 6), (25, .aload_n 0, 1, 0, 0), (26, .iload_n 2, 1, 2, 0), (27, .putfield 48, 3, 9, 7), (30, .aload_n 0, 1, 0, 0),
  (31, .aload_n 1, 1, 1, 0), (32, .getfield 51, 3, 3, 3), (35, .putfield 54, 3, 9, 11), (38, .aload_n 0, 1, 0, 0), (39, .aload_n 0, 1, 0, 0), (40, .getfield 29, 3, 9, 0),
  (43, .getfield 57, 3, 7, 3), (46, .aload_n 1, 1, 1, 0), (47, .getfield 51, 3, 3, 3), (50, .isub, 1, 0, 0), (51, .putfield 62, 3, 9, 12), (54, .aload_n 0, 1, 0, 0),
  (55, .iconst 0, 1, 0, 0), (56, .putfield 65, 3, 9, 10), (59, .return_, 1, 0, 0)]
def gc_51 : List gc_O := [
  (0, .iconst 1, 1, 1, 0), (1, .aload_n 0, 1, 0, 0), (2, .getfield 62, 3, 9, 12), (5, .ishl, 1, 0, 0), (6, .ireturn, 1, 0, 0)]
def gc_52 : List gc_O := [
  (0, .iconst 0, 1, 0, 0), (1, .istore_n 2, 1, 2, 0), (2, .iconst 0, 1, 0, 0), (3, .istore_n 3, 1, 3, 0), (4, .iload_n 3, 1, 3, 0), (5, .aload_n 0, 1, 0, 0),
  (6, .getfield 62, 3, 9, 12), (9, .if_icmp .ge 35, 3, 44, 0), (12, .iload_n 1, 1, 1, 0), (13, .iload_n 3, 1, 3, 0), (14, .invokestatic 68, 3, 96, 2), (17, .ifCond .eq 21, 3, 38, 0),
  (20, .iload_n 2, 1, 2, 0), (21, .iconst 1, 1, 1, 0), (22, .aload_n 0, 1, 0, 0), (23, .getfield 54, 3, 9, 11), (26, .aload_n 0, 1, 0, 0), (27, .getfield 62, 3, 9, 12),
  (30, .iadd, 1, 0, 0), (31, .iconst 1, 1, 1, 0), (32, .isub, 1, 0, 0), (33, .iload_n 3, 1, 3, 0), (34, .isub, 1, 0, 0), (35, .ishl, 1, 0, 0),
  (36, .ior, 1, 0, 0), (37, .istore_n 2, 1, 2, 0), (38, .iinc 3 1, 3, 1, 0), (41, .goto (-37), 3, 4, 0), (44, .iload_n 2, 1, 2, 0), (45, .ireturn, 1, 0, 0)]
def gc_53 : List gc_O := [
  (0, .iload_n 1, 1, 1, 0), (1, .aload_n 0, 1, 0, 0), (2, .getfield 72, 3, 9, 8), (5, .ixor, 1, 0, 0), (6, .iload_n 2, 1, 2, 0), (7, .aload_n 0, 1, 0, 0),
  (8, .getfield 75, 3, 9, 9), (11, .ixor, 1, 0, 0), (12, .ior, 1, 0, 0), (13, .istore_n 3, 1, 3, 0), (14, .iconst 0, 1, 0, 0), (15, .istore 4, 2, 4, 0),
  (17, .iload 4, 2, 4, 0), (19, .aload_n 0, 1, 0, 0), (20, .getfield 65, 3, 9, 10), (23, .if_icmp .ge 23, 3, 46, 0), (26, .iload_n 3, 1, 3, 0), (27, .aload_n 0, 1, 0, 0),
  (28, .getfield 54, 3, 9, 11), (31, .iload 4, 2, 4, 0), (33, .iadd, 1, 0, 0), (34, .invokestatic 68, 3, 96, 2), (37, .ifCond .ne 9, 3, 46, 0), (40, .iinc 4 1, 3, 1, 0),
  (43, .goto (-26), 3, 17, 0), (46, .aload_n 0, 1, 0, 0), (47, .iload_n 1, 1, 1, 0), (48, .putfield 72, 3, 9, 8), (51, .aload_n 0, 1, 0, 0), (52, .iload_n 2, 1, 2, 0),
  (53, .putfield 75, 3, 9, 9), (56, .iload 4, 2, 4, 0), (58, .istore 5, 2, 5, 0), (60, .iload 5, 2, 5, 0), (62, .aload_n 0, 1, 0, 0), (63, .getfield 62, 3, 9, 12),
  (66, .if_icmp .ge 15, 3, 81, 0), (69, .aload_n 0, 1, 0, 0), (70, .iload 5, 2, 5, 0), (72, .invokevirtual 78, 3, 54, 1), (75, .iinc 5 1, 3, 1, 0), (78, .goto (-18), 3, 60, 0),
  (81, .aload_n 0, 1, 0, 0), (82, .aload_n 0, 1, 0, 0), (83, .getfield 62, 3, 9, 12), (86, .putfield 65, 3, 9, 10), (89, .return_, 1, 0, 0)]
def gc_54 : List gc_O := [
  (0, .aload_n 0, 1, 0, 0), (1, .getfield 54, 3, 9, 11), (4, .iload_n 1, 1, 1, 0), (5, .iadd, 1, 0, 0), (6, .istore_n 2, 1, 2, 0), (7, .aload_n 0, 1, 0, 0),
  (8, .getfield 75, 3, 9, 9), (11, .iload_n 2, 1, 2, 0), (12, .invokestatic 68, 3, 96, 2), (15, .ifCond .eq 16, 3, 31, 0), (18, .aload_n 0, 1, 0, 0), (19, .getfield 29, 3, 9, 0),
  (22, .getfield 82, 3, 7, 5), (25, .iload_n 2, 1, 2, 0), (26, .iaload, 1, 0, 0), (27, .ineg, 1, 0, 0), (28, .goto 12, 3, 40, 0), (31, .aload_n 0, 1, 0, 0),
  (32, .getfield 29, 3, 9, 0), (35, .getfield 82, 3, 7, 5), (38, .iload_n 2, 1, 2, 0), (39, .iaload, 1, 0, 0), (40, .istore_n 3, 1, 3, 0), (41, .aload_n 0, 1, 0, 0),
  (42, .getfield 72, 3, 9, 8), (45, .iload_n 2, 1, 2, 0), (46, .invokestatic 68, 3, 96, 2), (49, .istore 4, 2, 4, 0), (51, .aload_n 0, 1, 0, 0), (52, .getfield 11, 3, 9, 1),
  (55, .iload_n 1, 1, 1, 0), (56, .iconst 1, 1, 1, 0), (57, .iadd, 1, 0, 0), (58, .aaload, 1, 0, 0), (59, .astore 5, 2, 5, 0), (61, .aload_n 0, 1, 0, 0),
  (62, .getfield 11, 3, 9, 1), (65, .iload_n 1, 1, 1, 0), (66, .aaload, 1, 0, 0), (67, .aload 5, 2, 5, 0), (69, .iload_n 3, 1, 3, 0), (70, .invokestatic 85, 3, 55, 3),
  (73, .iload 4, 2, 4, 0), (75, .ifCond .eq 20, 3, 95, 0), (78, .aload 5, 2, 5, 0), (80, .aload_n 0, 1, 0, 0), (81, .getfield 48, 3, 9, 7), (84, .dup2, 1, 0, 0),
  (85, .iaload, 1, 0, 0), (86, .aload_n 0, 1, 0, 0), (87, .getfield 29, 3, 9, 0), (90, .getfield 89, 3, 7, 1), (93, .iadd, 1, 0, 0), (94, .iastore, 1, 0, 0),
  (95, .aload_n 0, 1, 0, 0), (96, .aload 5, 2, 5, 0), (98, .invokevirtual 92, 3, 56, 1), (101, .aload_n 0, 1, 0, 0), (102, .iload_n 1, 1, 1, 0), (103, .iload 4, 2, 4, 0),
  (105, .iload_n 3, 1, 3, 0), (106, .iconst 1, 1, 1, 0), (107, .if_icmp .ne 7, 3, 114, 0), (110, .iconst 1, 1, 1, 0), (111, .goto 4, 3, 115, 0), (114, .iconst 0, 1, 0, 0),
  (115, .invokevirtual 96, 3, 57, 3), (118, .return_, 1, 0, 0)]
def gc_55 : List gc_O := [
  (0, .iconst 0, 1, 0, 0), (1, .istore_n 3, 1, 3, 0), (2, .iload_n 3, 1, 3, 0), (3, .bipush 10, 2, 10, 0), (5, .if_icmp .ge 52, 3, 57, 0), (8, .iload_n 3, 1, 3, 0),
  (9, .iload_n 2, 1, 2, 0), (10, .isub, 1, 0, 0), (11, .istore 4, 2, 4, 0), (13, .iload 4, 2, 4, 0), (15, .ifCond .lt 17, 3, 32, 0), (18, .iload 4, 2, 4, 0),
  (20, .bipush 10, 2, 10, 0), (22, .if_icmp .ge 10, 3, 32, 0), (25, .aload_n 0, 1, 0, 0), (26, .iload 4, 2, 4, 0), (28, .iaload, 1, 0, 0), (29, .goto 4, 3, 33, 0),
  (32, .iconst 0, 1, 0, 0), (33, .istore 5, 2, 5, 0), (35, .aload_n 1, 1, 1, 0), (36, .iload_n 3, 1, 3, 0), (37, .iload 5, 2, 5, 0), (39, .ifCond .le 10, 3, 49, 0),
  (42, .iload 5, 2, 5, 0), (44, .iconst 1, 1, 1, 0), (45, .isub, 1, 0, 0), (46, .goto 4, 3, 50, 0), (49, .iconst 0, 1, 0, 0), (50, .iastore, 1, 0, 0),
  (51, .iinc 3 1, 3, 1, 0), (54, .goto (-52), 3, 2, 0), (57, .return_, 1, 0, 0)]
def gc_56 : List gc_O := [
  (0, .iconst 0, 1, 0, 0), (1, .istore_n 2, 1, 2, 0), (2, .iload_n 2, 1, 2, 0), (3, .bipush 10, 2, 10, 0), (5, .if_icmp .ge 33, 3, 38, 0), (8, .aload_n 0, 1, 0, 0),
  (9, .getfield 47, 3, 9, 6), (12, .iload_n 2, 1, 2, 0), (13, .ishr, 1, 0, 0), (14, .ifCond .eq 24, 3, 38, 0), (17, .aload_n 0, 1, 0, 0), (18, .getfield 47, 3, 9, 6),
  (21, .iload_n 2, 1, 2, 0), (22, .invokestatic 68, 3, 96, 2), (25, .ifCond .eq 7, 3, 32, 0), (28, .aload_n 1, 1, 1, 0), (29, .iload_n 2, 1, 2, 0), (30, .iconst 0, 1, 0, 0),
  (31, .iastore, 1, 0, 0), (32, .iinc 2 1, 3, 1, 0), (35, .goto (-33), 3, 2, 0), (38, .return_, 1, 0, 0)]
def gc_57 : List gc_O := [
  (0, .aload_n 0, 1, 0, 0), (1, .getfield 29, 3, 9, 0), (4, .aload_n 0, 1, 0, 0), (5, .getfield 11, 3, 9, 1), (8, .iload_n 1, 1, 1, 0), (9, .iconst 1, 1, 1, 0),
  (10, .iadd, 1, 0, 0), (11, .aaload, 1, 0, 0), (12, .invokevirtual 100, 3, 35, 1), (15, .istore 4, 2, 4, 0), (17, .iload_n 2, 1, 2, 0), (18, .ifCond .eq 14, 3, 32, 0),
  (21, .aload_n 0, 1, 0, 0), (22, .getfield 29, 3, 9, 0), (25, .getfield 104, 3, 7, 2), (28, .ineg, 1, 0, 0), (29, .goto 4, 3, 33, 0), (32, .iconst 0, 1, 0, 0),
  (33, .istore 5, 2, 5, 0), (35, .iconst 0, 1, 0, 0), (36, .istore 6, 2, 6, 0), (38, .iload 6, 2, 6, 0), (40, .aload_n 0, 1, 0, 0), (41, .getfield 29, 3, 9, 0),
  (44, .getfield 107, 3, 7, 4), (47, .if_icmp .ge 58, 3, 105, 0), (50, .aload_n 0, 1, 0, 0), (51, .getfield 29, 3, 9, 0), (54, .iload 6, 2, 6, 0), (56, .iload 4, 2, 4, 0),
  (58, .iload 6, 2, 6, 0), (60, .invokestatic 68, 3, 96, 2), (63, .iload_n 3, 1, 3, 0), (64, .invokevirtual 110, 3, 36, 3), (67, .istore 7, 2, 7, 0), (69, .aload_n 0, 1, 0, 0),
  (70, .getfield 16, 3, 9, 2), (73, .iload_n 1, 1, 1, 0), (74, .iconst 1, 1, 1, 0), (75, .iadd, 1, 0, 0), (76, .aaload, 1, 0, 0), (77, .iload 6, 2, 6, 0),
  (79, .aload_n 0, 1, 0, 0), (80, .getfield 16, 3, 9, 2), (83, .iload_n 1, 1, 1, 0), (84, .aaload, 1, 0, 0), (85, .iload 6, 2, 6, 0), (87, .iaload, 1, 0, 0),
  (88, .iload 7, 2, 7, 0), (90, .iadd, 1, 0, 0), (91, .iastore, 1, 0, 0), (92, .iload 5, 2, 5, 0), (94, .iload 7, 2, 7, 0), (96, .iadd, 1, 0, 0),
  (97, .istore 5, 2, 5, 0), (99, .iinc 6 1, 3, 1, 0), (102, .goto (-64), 3, 38, 0), (105, .aload_n 0, 1, 0, 0), (106, .getfield 19, 3, 9, 3), (109, .iload_n 1, 1, 1, 0),
  (110, .iconst 1, 1, 1, 0), (111, .iadd, 1, 0, 0), (112, .aload_n 0, 1, 0, 0), (113, .getfield 19, 3, 9, 3), (116, .iload_n 1, 1, 1, 0), (117, .iaload, 1, 0, 0),
  (118, .iload 5, 2, 5, 0), (120, .iadd, 1, 0, 0), (121, .iastore, 1, 0, 0), (122, .aload_n 0, 1, 0, 0), (123, .getfield 23, 3, 9, 4), (126, .iload_n 1, 1, 1, 0),
  (127, .iconst 1, 1, 1, 0), (128, .iadd, 1, 0, 0), (129, .aload_n 0, 1, 0, 0), (130, .getfield 23, 3, 9, 4), (133, .iload_n 1, 1, 1, 0), (134, .iaload, 1, 0, 0),
  (135, .iload 4, 2, 4, 0), (137, .ior, 1, 0, 0), (138, .iastore, 1, 0, 0), (139, .aload_n 0, 1, 0, 0), (140, .getfield 26, 3, 9, 5), (143, .iload_n 1, 1, 1, 0),
  (144, .iconst 1, 1, 1, 0), (145, .iadd, 1, 0, 0), (146, .iload 4, 2, 4, 0), (148, .iastore, 1, 0, 0), (149, .return_, 1, 0, 0)]
def gc_58 : List gc_O := [
  (0, .aload_n 0, 1, 0, 0), (1, .getfield 19, 3, 9, 3), (4, .aload_n 0, 1, 0, 0), (5, .getfield 62, 3, 9, 12), (8, .iaload, 1, 0, 0), (9, .ireturn, 1, 0, 0)]
def gc_59 : List gc_O := [
  (0, .aload_n 0, 1, 0, 0), (1, .getfield 19, 3, 9, 3), (4, .iload_n 1, 1, 1, 0), (5, .iconst 1, 1, 1, 0), (6, .iadd, 1, 0, 0), (7, .iaload, 1, 0, 0),
  (8, .aload_n 0, 1, 0, 0), (9, .getfield 19, 3, 9, 3), (12, .iload_n 1, 1, 1, 0), (13, .iaload, 1, 0, 0), (14, .isub, 1, 0, 0), (15, .ireturn, 1, 0, 0)]
def gc_60 : List gc_O := [
  (0, .aload_n 0, 1, 0, 0), (1, .getfield 16, 3, 9, 2), (4, .aload_n 0, 1, 0, 0), (5, .getfield 62, 3, 9, 12), (8, .aaload, 1, 0, 0), (9, .iload_n 1, 1, 1, 0),
  (10, .iaload, 1, 0, 0), (11, .ireturn, 1, 0, 0)]
def gc_61 : List gc_O := [
  (0, .aload_n 0, 1, 0, 0), (1, .getfield 23, 3, 9, 4), (4, .aload_n 0, 1, 0, 0), (5, .getfield 62, 3, 9, 12), (8, .iaload, 1, 0, 0), (9, .ireturn, 1, 0, 0)]
def gc_62 : List gc_O := [
  (0, .aload_n 0, 1, 0, 0), (1, .getfield 11, 3, 9, 1), (4, .iconst 1, 1, 1, 0), (5, .aaload, 1, 0, 0), (6, .iconst 0, 1, 0, 0), (7, .aload_n 1, 1, 1, 0),
  (8, .getfield 33, 3, 3, 0), (11, .iconst 0, 1, 0, 0), (12, .bipush 10, 2, 10, 0), (14, .invokestatic 37, 3, 1001, 5), (17, .aload_n 1, 1, 1, 0), (18, .dup, 1, 0, 0),
  (19, .getfield 114, 3, 3, 2), (22, .aload_n 0, 1, 0, 0), (23, .getfield 19, 3, 9, 3), (26, .iconst 1, 1, 1, 0), (27, .iaload, 1, 0, 0), (28, .iadd, 1, 0, 0),
  (29, .putfield 114, 3, 3, 2), (32, .aload_n 1, 1, 1, 0), (33, .dup, 1, 0, 0), (34, .getfield 51, 3, 3, 3), (37, .iconst 1, 1, 1, 0), (38, .iadd, 1, 0, 0),
  (39, .putfield 51, 3, 3, 3), (42, .return_, 1, 0, 0)]
def gc_63 : List gc_O := [
  (0, .aload_n 0, 1, 0, 0), (1, .invokespecial 1, 3, 1000, 0), (4, .aload_n 0, 1, 0, 0), (5, .new 7, 3, 8, 0), (8, .dup, 1, 0, 0), (9, .invokespecial 9, 3, 37, 0),
  (12, .putfield 10, 3, 10, 0), (15, .aload_n 0, 1, 0, 0), (16, .new 16, 3, 7, 0), (19, .dup, 1, 0, 0), (20, .invokespecial 18, 3, 31, 0), (23, .putfield 19, 3, 10, 1),
  (26, .aload_n 0, 1, 0, 0), (27, .new 23, 3, 3, 0), (30, .dup, 1, 0, 0), (31, .invokespecial 25, 3, 12, 0), (34, .putfield 26, 3, 10, 2), (37, .aload_n 0, 1, 0, 0),
  (38, .new 23, 3, 3, 0), (41, .dup, 1, 0, 0), (42, .invokespecial 25, 3, 12, 0), (45, .putfield 30, 3, 10, 3), (48, .aload_n 0, 1, 0, 0), (49, .new 33, 3, 0, 0),
  (52, .dup, 1, 0, 0), (53, .invokespecial 35, 3, 0, 0), (56, .putfield 36, 3, 10, 4), (59, .aload_n 0, 1, 0, 0), (60, .new 40, 3, 6, 0), (63, .dup, 1, 0, 0),
  (64, .invokespecial 42, 3, 27, 0), (67, .putfield 43, 3, 10, 5), (70, .aload_n 0, 1, 0, 0), (71, .new 47, 3, 5, 0), (74, .dup, 1, 0, 0), (75, .invokespecial 49, 3, 23, 0),
  (78, .putfield 50, 3, 10, 6), (81, .aload_n 0, 1, 0, 0), (82, .new 54, 3, 9, 0), (85, .dup, 1, 0, 0), (86, .aload_n 0, 1, 0, 0), (87, .getfield 19, 3, 10, 1),
  (90, .invokespecial 56, 3, 49, 1), (93, .putfield 59, 3, 10, 7), (96, .aload_n 0, 1, 0, 0), (97, .new 63, 3, 1, 0), (100, .dup, 1, 0, 0), (101, .aload_n 0, 1, 0, 0),
  (102, .getfield 59, 3, 10, 7), (105, .invokespecial 65, 3, 4, 1), (108, .putfield 68, 3, 10, 8), (111, .aload_n 0, 1, 0, 0), (112, .new 72, 3, 2, 0), (115, .dup, 1, 0, 0),
  (116, .aload_n 0, 1, 0, 0), (117, .getfield 19, 3, 10, 1), (120, .aload_n 0, 1, 0, 0), (121, .getfield 59, 3, 10, 7), (124, .invokespecial 74, 3, 8, 2), (127, .putfield 77, 3, 10, 9),
  (130, .aload_n 0, 1, 0, 0), (131, .new 81, 3, 4, 0), (134, .dup, 1, 0, 0), (135, .aload_n 0, 1, 0, 0), (136, .getfield 19, 3, 10, 1), (139, .aload_n 0, 1, 0, 0),
  (140, .getfield 59, 3, 10, 7), (143, .invokespecial 83, 3, 16, 2), (146, .putfield 84, 3, 10, 10), (149, .return_, 1, 0, 0)]
def gc_64 : List gc_O := [
  (0, .iload_n 1, 1, 1, 0), (1, .ifCond .lt 10, 3, 11, 0), (4, .iload_n 1, 1, 1, 0), (5, .sipush 255, 3, 255, 0), (8, .if_icmp .le 6, 3, 14, 0), (11, .bipush (-2), 2, 2, 1),
  (13, .ireturn, 1, 0, 0), (14, .aload_n 0, 1, 0, 0), (15, .getfield 10, 3, 10, 0), (18, .iload_n 1, 1, 1, 0), (19, .invokevirtual 88, 3, 38, 1), (22, .ifCond .eq 13, 3, 35, 0),
  (25, .aload_n 0, 1, 0, 0), (26, .getfield 10, 3, 10, 0), (29, .getfield 92, 3, 8, 1), (32, .goto 5, 3, 37, 0), (35, .bipush (-4), 2, 4, 1), (37, .ireturn, 1, 0, 0)]
def gc_65 : List gc_O := [
  (0, .aload_n 0, 1, 0, 0), (1, .getfield 10, 3, 10, 0), (4, .getfield 92, 3, 8, 1), (7, .istore_n 1, 1, 1, 0), (8, .aload_n 0, 1, 0, 0), (9, .getfield 10, 3, 10, 0),
  (12, .iconst 0, 1, 0, 0), (13, .putfield 92, 3, 8, 1), (16, .iload_n 1, 1, 1, 0), (17, .ireturn, 1, 0, 0)]
def gc_66 : List gc_O := [
  (0, .aload_n 0, 1, 0, 0), (1, .getfield 10, 3, 10, 0), (4, .invokevirtual 96, 3, 42, 0), (7, .ireturn, 1, 0, 0)]
def gc_67 : List gc_O := [
  (0, .aload_n 0, 1, 0, 0), (1, .getfield 10, 3, 10, 0), (4, .invokevirtual 96, 3, 42, 0), (7, .bipush (-99), 2, 99, 1), (9, .if_icmp .eq 6, 3, 15, 0), (12, .bipush (-3), 2, 3, 1),
  (14, .ireturn, 1, 0, 0), (15, .aload_n 0, 1, 0, 0), (16, .getfield 19, 3, 10, 1), (19, .aload_n 0, 1, 0, 0), (20, .getfield 10, 3, 10, 0), (23, .invokevirtual 100, 3, 32, 1),
  (26, .aload_n 0, 1, 0, 0), (27, .getfield 26, 3, 10, 2), (30, .invokevirtual 104, 3, 13, 0), (33, .aload_n 0, 1, 0, 0), (34, .getfield 36, 3, 10, 4), (37, .invokevirtual 107, 3, 1, 0),
  (40, .aload_n 0, 1, 0, 0), (41, .getfield 43, 3, 10, 5), (44, .invokevirtual 110, 3, 28, 0), (47, .bipush 10, 2, 10, 0), (49, .aload_n 0, 1, 0, 0), (50, .getfield 19, 3, 10, 1),
  (53, .getfield 111, 3, 7, 3), (56, .imul, 1, 0, 0), (57, .aload_n 0, 1, 0, 0), (58, .getfield 19, 3, 10, 1), (61, .getfield 114, 3, 7, 4), (64, .iadd, 1, 0, 0),
  (65, .ireturn, 1, 0, 0)]
def gc_68 : List gc_O := [
  (0, .iload_n 1, 1, 1, 0), (1, .invokestatic 117, 3, 93, 1), (4, .ifCond .eq 15, 3, 19, 0), (7, .aload_n 0, 1, 0, 0), (8, .getfield 26, 3, 10, 2), (11, .getfield 120, 3, 3, 0),
  (14, .iload_n 1, 1, 1, 0), (15, .iaload, 1, 0, 0), (16, .goto 5, 3, 21, 0), (19, .bipush (-2), 2, 2, 1), (21, .ireturn, 1, 0, 0)]
def gc_69 : List gc_O := [
  (0, .iload_n 1, 1, 1, 0), (1, .ifCond .lt 26, 3, 27, 0), (4, .iload_n 1, 1, 1, 0), (5, .aload_n 0, 1, 0, 0), (6, .getfield 19, 3, 10, 1), (9, .getfield 111, 3, 7, 3),
  (12, .if_icmp .ge 15, 3, 27, 0), (15, .aload_n 0, 1, 0, 0), (16, .getfield 19, 3, 10, 1), (19, .getfield 124, 3, 7, 5), (22, .iload_n 1, 1, 1, 0), (23, .iaload, 1, 0, 0),
  (24, .goto 5, 3, 29, 0), (27, .bipush (-99), 2, 99, 1), (29, .ireturn, 1, 0, 0)]
def gc_70 : List gc_O := [
  (0, .aload_n 0, 1, 0, 0), (1, .getfield 19, 3, 10, 1), (4, .iload_n 1, 1, 1, 0), (5, .invokevirtual 127, 3, 34, 1), (8, .ifCond .ne 5, 3, 13, 0), (11, .iconst (-1), 1, 1, 1),
  (12, .ireturn, 1, 0, 0), (13, .iload_n 2, 1, 2, 0), (14, .tableswitch 101 0 4 #[34, 44, 54, 64, 74], 34, 0, 0), (48, .aload_n 0, 1, 0, 0), (49, .getfield 19, 3, 10, 1), (52, .getfield 130, 3, 7, 6),
  (55, .iload_n 1, 1, 1, 0), (56, .iaload, 1, 0, 0), (57, .ireturn, 1, 0, 0), (58, .aload_n 0, 1, 0, 0), (59, .getfield 19, 3, 10, 1), (62, .getfield 133, 3, 7, 7),
  (65, .iload_n 1, 1, 1, 0), (66, .iaload, 1, 0, 0), (67, .ireturn, 1, 0, 0), (68, .aload_n 0, 1, 0, 0), (69, .getfield 19, 3, 10, 1), (72, .getfield 136, 3, 7, 8),
  (75, .iload_n 1, 1, 1, 0), (76, .iaload, 1, 0, 0), (77, .ireturn, 1, 0, 0), (78, .aload_n 0, 1, 0, 0), (79, .getfield 19, 3, 10, 1), (82, .getfield 139, 3, 7, 9),
  (85, .iload_n 1, 1, 1, 0), (86, .iaload, 1, 0, 0), (87, .ireturn, 1, 0, 0), (88, .aload_n 0, 1, 0, 0), (89, .getfield 19, 3, 10, 1), (92, .aload_n 0, 1, 0, 0),
  (93, .getfield 26, 3, 10, 2), (96, .getfield 120, 3, 3, 0), (99, .invokevirtual 142, 3, 35, 1), (102, .iload_n 1, 1, 1, 0), (103, .invokestatic 146, 3, 96, 2), (106, .ifCond .eq 7, 3, 113, 0),
  (109, .iconst 1, 1, 1, 0), (110, .goto 4, 3, 114, 0), (113, .iconst 0, 1, 0, 0), (114, .ireturn, 1, 0, 0), (115, .bipush (-2), 2, 2, 1), (117, .ireturn, 1, 0, 0)]
def gc_71 : List gc_O := [
  (0, .aload_n 0, 1, 0, 0), (1, .getfield 26, 3, 10, 2), (4, .getfield 150, 3, 3, 2), (7, .ireturn, 1, 0, 0)]
def gc_72 : List gc_O := [
  (0, .aload_n 0, 1, 0, 0), (1, .invokevirtual 153, 3, 97, 0), (4, .ifCond .ne 6, 3, 10, 0), (7, .bipush (-3), 2, 3, 1), (9, .ireturn, 1, 0, 0), (10, .aload_n 0, 1, 0, 0),
  (11, .getfield 36, 3, 10, 4), (14, .aload_n 0, 1, 0, 0), (15, .getfield 26, 3, 10, 2), (18, .invokevirtual 156, 3, 2, 1), (21, .aload_n 0, 1, 0, 0), (22, .getfield 59, 3, 10, 7),
  (25, .aload_n 0, 1, 0, 0), (26, .getfield 26, 3, 10, 2), (29, .aload_n 0, 1, 0, 0), (30, .getfield 19, 3, 10, 1), (33, .getfield 160, 3, 7, 0), (36, .invokevirtual 163, 3, 50, 2),
  (39, .aload_n 0, 1, 0, 0), (40, .getfield 59, 3, 10, 7), (43, .iload_n 1, 1, 1, 0), (44, .ifCond .eq 15, 3, 59, 0), (47, .iconst 1, 1, 1, 0), (48, .aload_n 0, 1, 0, 0),
  (49, .getfield 26, 3, 10, 2), (52, .getfield 167, 3, 3, 3), (55, .ishl, 1, 0, 0), (56, .goto 4, 3, 60, 0), (59, .iconst 0, 1, 0, 0), (60, .iconst 0, 1, 0, 0),
  (61, .invokevirtual 170, 3, 53, 2), (64, .aload_n 0, 1, 0, 0), (65, .getfield 59, 3, 10, 7), (68, .aload_n 0, 1, 0, 0), (69, .getfield 26, 3, 10, 2), (72, .invokevirtual 174, 3, 62, 1),
  (75, .aload_n 0, 1, 0, 0), (76, .getfield 59, 3, 10, 7), (79, .getfield 177, 3, 9, 5), (82, .iconst 1, 1, 1, 0), (83, .iaload, 1, 0, 0), (84, .ireturn, 1, 0, 0)]
def gc_73 : List gc_O := [
  (0, .iload_n 1, 1, 1, 0), (1, .invokestatic 117, 3, 93, 1), (4, .ifCond .ne 6, 3, 10, 0), (7, .bipush (-2), 2, 2, 1), (9, .ireturn, 1, 0, 0), (10, .aload_n 0, 1, 0, 0),
  (11, .invokevirtual 153, 3, 97, 0), (14, .ifCond .ne 6, 3, 20, 0), (17, .bipush (-3), 2, 3, 1), (19, .ireturn, 1, 0, 0), (20, .aload_n 0, 1, 0, 0), (21, .getfield 36, 3, 10, 4),
  (24, .aload_n 0, 1, 0, 0), (25, .getfield 26, 3, 10, 2), (28, .invokevirtual 156, 3, 2, 1), (31, .aload_n 0, 1, 0, 0), (32, .getfield 26, 3, 10, 2), (35, .dup, 1, 0, 0),
  (36, .getfield 180, 3, 3, 1), (39, .iconst 1, 1, 1, 0), (40, .iload_n 1, 1, 1, 0), (41, .ishl, 1, 0, 0), (42, .ixor, 1, 0, 0), (43, .putfield 180, 3, 3, 1),
  (46, .aload_n 0, 1, 0, 0), (47, .getfield 26, 3, 10, 2), (50, .getfield 180, 3, 3, 1), (53, .iload_n 1, 1, 1, 0), (54, .invokestatic 146, 3, 96, 2), (57, .ifCond .eq 7, 3, 64, 0),
  (60, .iconst 1, 1, 1, 0), (61, .goto 4, 3, 65, 0), (64, .iconst 0, 1, 0, 0), (65, .ireturn, 1, 0, 0)]
def gc_74 : List gc_O := [
  (0, .aload_n 0, 1, 0, 0), (1, .getfield 36, 3, 10, 4), (4, .aload_n 0, 1, 0, 0), (5, .getfield 26, 3, 10, 2), (8, .invokevirtual 183, 3, 3, 1), (11, .ifCond .eq 13, 3, 24, 0),
  (14, .aload_n 0, 1, 0, 0), (15, .getfield 36, 3, 10, 4), (18, .getfield 187, 3, 0, 2), (21, .goto 5, 3, 26, 0), (24, .bipush (-3), 2, 3, 1), (26, .ireturn, 1, 0, 0)]
def gc_75 : List gc_O := [
  (0, .iload_n 1, 1, 1, 0), (1, .invokestatic 190, 3, 94, 1), (4, .ifCond .ne 6, 3, 10, 0), (7, .ldc 193, 2, 1000002, 1), (9, .ireturn, 1, 0, 0), (10, .aload_n 0, 1, 0, 0),
  (11, .iload_n 1, 1, 1, 0), (12, .invokevirtual 194, 3, 98, 1), (15, .aload_n 0, 1, 0, 0), (16, .getfield 59, 3, 10, 7), (19, .invokevirtual 198, 3, 58, 0), (22, .ireturn, 1, 0, 0)]
def gc_76 : List gc_O := [
  (0, .aload_n 0, 1, 0, 0), (1, .getfield 59, 3, 10, 7), (4, .aload_n 0, 1, 0, 0), (5, .getfield 26, 3, 10, 2), (8, .aload_n 0, 1, 0, 0), (9, .getfield 19, 3, 10, 1),
  (12, .getfield 160, 3, 7, 0), (15, .invokevirtual 163, 3, 50, 2), (18, .aload_n 0, 1, 0, 0), (19, .getfield 68, 3, 10, 8), (22, .invokevirtual 201, 3, 5, 0), (25, .iload_n 1, 1, 1, 0),
  (26, .ifCond .eq 13, 3, 39, 0), (29, .aload_n 0, 1, 0, 0), (30, .getfield 68, 3, 10, 8), (33, .getfield 204, 3, 1, 2), (36, .goto 10, 3, 46, 0), (39, .aload_n 0, 1, 0, 0),
  (40, .getfield 68, 3, 10, 8), (43, .getfield 206, 3, 1, 1), (46, .ireturn, 1, 0, 0)]
def gc_77 : List gc_O := [
  (0, .aload_n 0, 1, 0, 0), (1, .iconst 1, 1, 1, 0), (2, .invokevirtual 209, 3, 76, 1), (5, .istore_n 1, 1, 1, 0), (6, .bipush (-99), 2, 99, 1), (8, .istore_n 2, 1, 2, 0),
  (9, .iconst 0, 1, 0, 0), (10, .istore_n 3, 1, 3, 0), (11, .iload_n 3, 1, 3, 0), (12, .bipush 10, 2, 10, 0), (14, .if_icmp .ge 81, 3, 95, 0), (17, .aload_n 0, 1, 0, 0),
  (18, .getfield 30, 3, 10, 3), (21, .aload_n 0, 1, 0, 0), (22, .getfield 26, 3, 10, 2), (25, .invokevirtual 213, 3, 15, 1), (28, .aload_n 0, 1, 0, 0), (29, .getfield 30, 3, 10, 3),
  (32, .dup, 1, 0, 0), (33, .getfield 180, 3, 3, 1), (36, .iconst 1, 1, 1, 0), (37, .iload_n 3, 1, 3, 0), (38, .ishl, 1, 0, 0), (39, .ixor, 1, 0, 0),
  (40, .putfield 180, 3, 3, 1), (43, .aload_n 0, 1, 0, 0), (44, .getfield 59, 3, 10, 7), (47, .aload_n 0, 1, 0, 0), (48, .getfield 30, 3, 10, 3), (51, .aload_n 0, 1, 0, 0),
  (52, .getfield 19, 3, 10, 1), (55, .getfield 160, 3, 7, 0), (58, .invokevirtual 163, 3, 50, 2), (61, .aload_n 0, 1, 0, 0), (62, .getfield 68, 3, 10, 8), (65, .invokevirtual 201, 3, 5, 0),
  (68, .aload_n 0, 1, 0, 0), (69, .getfield 68, 3, 10, 8), (72, .getfield 204, 3, 1, 2), (75, .iload_n 1, 1, 1, 0), (76, .if_icmp .le 13, 3, 89, 0), (79, .aload_n 0, 1, 0, 0),
  (80, .getfield 68, 3, 10, 8), (83, .getfield 204, 3, 1, 2), (86, .istore_n 1, 1, 1, 0), (87, .iload_n 3, 1, 3, 0), (88, .istore_n 2, 1, 2, 0), (89, .iinc 3 1, 3, 1, 0),
  (92, .goto (-81), 3, 11, 0), (95, .iload_n 2, 1, 2, 0), (96, .ireturn, 1, 0, 0)]
def gc_78 : List gc_O := [
  (0, .aload_n 0, 1, 0, 0), (1, .getfield 19, 3, 10, 1), (4, .iload_n 1, 1, 1, 0), (5, .invokevirtual 127, 3, 34, 1), (8, .ifCond .ne 6, 3, 14, 0), (11, .ldc 216, 2, 1000001, 1),
  (13, .ireturn, 1, 0, 0), (14, .aload_n 0, 1, 0, 0), (15, .getfield 59, 3, 10, 7), (18, .aload_n 0, 1, 0, 0), (19, .getfield 26, 3, 10, 2), (22, .aload_n 0, 1, 0, 0),
  (23, .getfield 19, 3, 10, 1), (26, .getfield 160, 3, 7, 0), (29, .invokevirtual 163, 3, 50, 2), (32, .aload_n 0, 1, 0, 0), (33, .getfield 77, 3, 10, 9), (36, .invokevirtual 217, 3, 9, 0),
  (39, .aload_n 0, 1, 0, 0), (40, .getfield 77, 3, 10, 9), (43, .iload_n 1, 1, 1, 0), (44, .invokevirtual 220, 3, 11, 1), (47, .getstatic 224, 3, 1, 0), (50, .aload_n 0, 1, 0, 0),
  (51, .getfield 19, 3, 10, 1), (54, .getfield 114, 3, 7, 4), (57, .iaload, 1, 0, 0), (58, .i2l, 1, 0, 0), (59, .iload_n 2, 1, 2, 0), (60, .invokestatic 227, 3, 104, 3),
  (63, .l2i, 1, 0, 0), (64, .ireturn, 1, 0, 0)]
def gc_79 : List gc_O := [
  (0, .iload_n 1, 1, 1, 0), (1, .iconst 1, 1, 1, 0), (2, .if_icmp .lt 22, 3, 24, 0), (5, .iload_n 1, 1, 1, 0), (6, .bipush 8, 2, 8, 0), (8, .if_icmp .gt 16, 3, 24, 0),
  (11, .iload_n 2, 1, 2, 0), (12, .ifCond .lt 12, 3, 24, 0), (15, .iload_n 2, 1, 2, 0), (16, .getstatic 231, 3, 2, 0), (19, .iload_n 1, 1, 1, 0), (20, .iaload, 1, 0, 0),
  (21, .if_icmp .lt 6, 3, 27, 0), (24, .bipush (-2), 2, 2, 1), (26, .ireturn, 1, 0, 0), (27, .aload_n 0, 1, 0, 0), (28, .aload_n 0, 1, 0, 0), (29, .iload_n 1, 1, 1, 0),
  (30, .iload_n 2, 1, 2, 0), (31, .invokevirtual 234, 3, 100, 2), (34, .invokevirtual 194, 3, 98, 1), (37, .iconst 0, 1, 0, 0), (38, .istore_n 3, 1, 3, 0), (39, .iload_n 3, 1, 3, 0),
  (40, .iload_n 1, 1, 1, 0), (41, .if_icmp .ge 43, 3, 84, 0), (44, .iload_n 3, 1, 3, 0), (45, .aload_n 0, 1, 0, 0), (46, .getfield 59, 3, 10, 7), (49, .getfield 238, 3, 9, 12),
  (52, .if_icmp .ge 24, 3, 76, 0), (55, .iload_n 1, 1, 1, 0), (56, .iload_n 2, 1, 2, 0), (57, .iload_n 3, 1, 3, 0), (58, .invokestatic 241, 3, 99, 3), (61, .iconst 1, 1, 1, 0),
  (62, .if_icmp .gt 14, 3, 76, 0), (65, .aload_n 0, 1, 0, 0), (66, .getfield 59, 3, 10, 7), (69, .iload_n 3, 1, 3, 0), (70, .invokevirtual 245, 3, 59, 1), (73, .ifCond .ge 5, 3, 78, 0),
  (76, .iload_n 3, 1, 3, 0), (77, .ireturn, 1, 0, 0), (78, .iinc 3 1, 3, 1, 0), (81, .goto (-42), 3, 39, 0), (84, .bipush (-99), 2, 99, 1), (86, .ireturn, 1, 0, 0)]
def gc_80 : List gc_O := [
  (0, .iload_n 1, 1, 1, 0), (1, .invokestatic 190, 3, 94, 1), (4, .ifCond .ne 6, 3, 10, 0), (7, .bipush (-2), 2, 2, 1), (9, .ireturn, 1, 0, 0), (10, .aload_n 0, 1, 0, 0),
  (11, .iload_n 1, 1, 1, 0), (12, .invokevirtual 194, 3, 98, 1), (15, .aload_n 0, 1, 0, 0), (16, .getfield 59, 3, 10, 7), (19, .invokevirtual 249, 3, 61, 0), (22, .ireturn, 1, 0, 0)]
def gc_81 : List gc_O := [
  (0, .iload_n 1, 1, 1, 0), (1, .ifCond .lt 16, 3, 17, 0), (4, .iload_n 1, 1, 1, 0), (5, .iconst 1, 1, 1, 0), (6, .aload_n 0, 1, 0, 0), (7, .getfield 19, 3, 10, 1),
  (10, .getfield 114, 3, 7, 4), (13, .ishl, 1, 0, 0), (14, .if_icmp .lt 6, 3, 20, 0), (17, .bipush (-2), 2, 2, 1), (19, .ireturn, 1, 0, 0), (20, .aload_n 0, 1, 0, 0),
  (21, .getfield 59, 3, 10, 7), (24, .aload_n 0, 1, 0, 0), (25, .getfield 26, 3, 10, 2), (28, .aload_n 0, 1, 0, 0), (29, .getfield 19, 3, 10, 1), (32, .getfield 160, 3, 7, 0),
  (35, .invokevirtual 163, 3, 50, 2), (38, .aload_n 0, 1, 0, 0), (39, .getfield 68, 3, 10, 8), (42, .iload_n 1, 1, 1, 0), (43, .invokevirtual 252, 3, 6, 1), (46, .ifCond .eq 13, 3, 59, 0),
  (49, .aload_n 0, 1, 0, 0), (50, .getfield 68, 3, 10, 8), (53, .getfield 206, 3, 1, 1), (56, .goto 5, 3, 61, 0), (59, .bipush (-99), 2, 99, 1), (61, .ireturn, 1, 0, 0)]
def gc_82 : List gc_O := [
  (0, .aload_n 0, 1, 0, 0), (1, .getfield 19, 3, 10, 1), (4, .iload_n 1, 1, 1, 0), (5, .invokevirtual 127, 3, 34, 1), (8, .ifCond .ne 5, 3, 13, 0), (11, .iconst (-1), 1, 1, 1),
  (12, .ireturn, 1, 0, 0), (13, .iload_n 2, 1, 2, 0), (14, .ifCond .lt 9, 3, 23, 0), (17, .iload_n 2, 1, 2, 0), (18, .bipush 8, 2, 8, 0), (20, .if_icmp .lt 6, 3, 26, 0),
  (23, .bipush (-2), 2, 2, 1), (25, .ireturn, 1, 0, 0), (26, .aload_n 0, 1, 0, 0), (27, .getfield 50, 3, 10, 6), (30, .iload_n 1, 1, 1, 0), (31, .iload_n 2, 1, 2, 0),
  (32, .iload_n 3, 1, 3, 0), (33, .invokevirtual 255, 3, 24, 3), (36, .ifCond .eq 13, 3, 49, 0), (39, .aload_n 0, 1, 0, 0), (40, .getfield 50, 3, 10, 6), (43, .getfield 258, 3, 5, 3),
  (46, .goto 5, 3, 51, 0), (49, .bipush (-4), 2, 4, 1), (51, .ireturn, 1, 0, 0)]
def gc_83 : List gc_O := [
  (0, .aload_n 0, 1, 0, 0), (1, .getfield 50, 3, 10, 6), (4, .getfield 258, 3, 5, 3), (7, .istore_n 1, 1, 1, 0), (8, .aload_n 0, 1, 0, 0), (9, .getfield 50, 3, 10, 6),
  (12, .iconst 0, 1, 0, 0), (13, .putfield 258, 3, 5, 3), (16, .iload_n 1, 1, 1, 0), (17, .ireturn, 1, 0, 0)]
def gc_84 : List gc_O := [
  (0, .iload_n 1, 1, 1, 0), (1, .ifCond .lt 8, 3, 9, 0), (4, .iload_n 1, 1, 1, 0), (5, .iconst 2, 1, 2, 0), (6, .if_icmp .le 6, 3, 12, 0), (9, .bipush (-2), 2, 2, 1),
  (11, .ireturn, 1, 0, 0), (12, .aload_n 0, 1, 0, 0), (13, .getfield 30, 3, 10, 3), (16, .invokevirtual 104, 3, 13, 0), (19, .aload_n 0, 1, 0, 0), (20, .getfield 59, 3, 10, 7),
  (23, .aload_n 0, 1, 0, 0), (24, .getfield 30, 3, 10, 3), (27, .aload_n 0, 1, 0, 0), (28, .getfield 19, 3, 10, 1), (31, .getfield 160, 3, 7, 0), (34, .invokevirtual 163, 3, 50, 2),
  (37, .aload_n 0, 1, 0, 0), (38, .getfield 50, 3, 10, 6), (41, .aload_n 0, 1, 0, 0), (42, .getfield 19, 3, 10, 1), (45, .aload_n 0, 1, 0, 0), (46, .getfield 59, 3, 10, 7),
  (49, .invokevirtual 259, 3, 25, 2), (52, .iload_n 1, 1, 1, 0), (53, .ifCond .ne 11, 3, 64, 0), (56, .aload_n 0, 1, 0, 0), (57, .getfield 50, 3, 10, 6), (60, .getfield 262, 3, 5, 4),
  (63, .ireturn, 1, 0, 0), (64, .aload_n 0, 1, 0, 0), (65, .getfield 50, 3, 10, 6), (68, .getfield 262, 3, 5, 4), (71, .ifCond .ne 6, 3, 77, 0), (74, .bipush (-99), 2, 99, 1),
  (76, .ireturn, 1, 0, 0), (77, .iload_n 1, 1, 1, 0), (78, .iconst 1, 1, 1, 0), (79, .if_icmp .ne 13, 3, 92, 0), (82, .aload_n 0, 1, 0, 0), (83, .getfield 50, 3, 10, 6),
  (86, .getfield 265, 3, 5, 5), (89, .goto 10, 3, 99, 0), (92, .aload_n 0, 1, 0, 0), (93, .getfield 50, 3, 10, 6), (96, .getfield 268, 3, 5, 6), (99, .ireturn, 1, 0, 0)]
def gc_85 : List gc_O := [
  (0, .iload_n 1, 1, 1, 0), (1, .invokestatic 190, 3, 94, 1), (4, .ifCond .eq 10, 3, 14, 0), (7, .iload_n 2, 1, 2, 0), (8, .invokestatic 271, 3, 95, 1), (11, .ifCond .ne 7, 3, 18, 0),
  (14, .ldc2_w 274, 3, 1000000000002, 1), (17, .lreturn, 1, 0, 0), (18, .aload_n 0, 1, 0, 0), (19, .iconst (-1), 1, 1, 1), (20, .iload_n 1, 1, 1, 0), (21, .iload_n 2, 1, 2, 0),
  (22, .invokevirtual 276, 3, 102, 3), (25, .bipush 10, 2, 10, 0), (27, .aload_n 0, 1, 0, 0), (28, .invokevirtual 153, 3, 97, 0), (31, .invokestatic 280, 3, 103, 2), (34, .iload_n 3, 1, 3, 0),
  (35, .invokestatic 227, 3, 104, 3), (38, .lreturn, 1, 0, 0)]
def gc_86 : List gc_O := [
  (0, .aload_n 0, 1, 0, 0), (1, .getfield 19, 3, 10, 1), (4, .iload_n 1, 1, 1, 0), (5, .invokevirtual 127, 3, 34, 1), (8, .ifCond .ne 7, 3, 15, 0), (11, .ldc2_w 284, 3, 1000000000001, 1),
  (14, .lreturn, 1, 0, 0), (15, .iload_n 2, 1, 2, 0), (16, .invokestatic 190, 3, 94, 1), (19, .ifCond .eq 10, 3, 29, 0), (22, .iload_n 3, 1, 3, 0), (23, .invokestatic 271, 3, 95, 1),
  (26, .ifCond .ne 7, 3, 33, 0), (29, .ldc2_w 274, 3, 1000000000002, 1), (32, .lreturn, 1, 0, 0), (33, .aload_n 0, 1, 0, 0), (34, .iload_n 1, 1, 1, 0), (35, .iload_n 2, 1, 2, 0),
  (36, .iload_n 3, 1, 3, 0), (37, .invokevirtual 276, 3, 102, 3), (40, .bipush 10, 2, 10, 0), (42, .aload_n 0, 1, 0, 0), (43, .invokevirtual 153, 3, 97, 0), (46, .invokestatic 280, 3, 103, 2),
  (49, .iload 4, 2, 4, 0), (51, .invokestatic 227, 3, 104, 3), (54, .lreturn, 1, 0, 0)]
def gc_87 : List gc_O := [
  (0, .iload_n 1, 1, 1, 0), (1, .invokestatic 117, 3, 93, 1), (4, .ifCond .eq 12, 3, 16, 0), (7, .iload_n 2, 1, 2, 0), (8, .ifCond .lt 8, 3, 16, 0), (11, .iload_n 2, 1, 2, 0),
  (12, .iconst 1, 1, 1, 0), (13, .if_icmp .le 6, 3, 19, 0), (16, .bipush (-2), 2, 2, 1), (18, .ireturn, 1, 0, 0), (19, .aload_n 0, 1, 0, 0), (20, .getfield 30, 3, 10, 3),
  (23, .aload_n 0, 1, 0, 0), (24, .getfield 26, 3, 10, 2), (27, .invokevirtual 213, 3, 15, 1), (30, .aload_n 0, 1, 0, 0), (31, .getfield 30, 3, 10, 3), (34, .invokevirtual 286, 3, 14, 0),
  (37, .aload_n 0, 1, 0, 0), (38, .getfield 84, 3, 10, 10), (41, .aload_n 0, 1, 0, 0), (42, .getfield 26, 3, 10, 2), (45, .aload_n 0, 1, 0, 0), (46, .getfield 30, 3, 10, 3),
  (49, .iload_n 1, 1, 1, 0), (50, .invokevirtual 289, 3, 17, 3), (53, .iload_n 2, 1, 2, 0), (54, .ifCond .ne 13, 3, 67, 0), (57, .aload_n 0, 1, 0, 0), (58, .getfield 84, 3, 10, 10),
  (61, .getfield 293, 3, 4, 6), (64, .goto 10, 3, 74, 0), (67, .aload_n 0, 1, 0, 0), (68, .getfield 84, 3, 10, 10), (71, .getfield 296, 3, 4, 7), (74, .ireturn, 1, 0, 0)]
def gc_88 : List gc_O := [
  (0, .aload_n 0, 1, 0, 0), (1, .getfield 299, 3, 10, 11), (4, .lstore_n 3, 1, 3, 0), (5, .aload_n 0, 1, 0, 0), (6, .lload_n 1, 1, 1, 0), (7, .putfield 299, 3, 10, 11),
  (10, .lload_n 3, 1, 3, 0), (11, .lreturn, 1, 0, 0)]
def gc_89 : List gc_O := [
  (0, .iload_n 1, 1, 1, 0), (1, .iconst 1, 1, 1, 0), (2, .if_icmp .lt 9, 3, 11, 0), (5, .iload_n 1, 1, 1, 0), (6, .bipush 20, 2, 20, 0), (8, .if_icmp .le 6, 3, 14, 0),
  (11, .ldc 193, 2, 1000002, 1), (13, .ireturn, 1, 0, 0), (14, .iconst 0, 1, 0, 0), (15, .istore_n 2, 1, 2, 0), (16, .iconst 0, 1, 0, 0), (17, .istore_n 3, 1, 3, 0),
  (18, .iload_n 3, 1, 3, 0), (19, .iload_n 1, 1, 1, 0), (20, .if_icmp .ge 27, 3, 47, 0), (23, .aload_n 0, 1, 0, 0), (24, .aload_n 0, 1, 0, 0), (25, .invokevirtual 303, 3, 101, 0),
  (28, .invokevirtual 194, 3, 98, 1), (31, .iload_n 2, 1, 2, 0), (32, .aload_n 0, 1, 0, 0), (33, .getfield 59, 3, 10, 7), (36, .invokevirtual 198, 3, 58, 0), (39, .iadd, 1, 0, 0),
  (40, .istore_n 2, 1, 2, 0), (41, .iinc 3 1, 3, 1, 0), (44, .goto (-26), 3, 18, 0), (47, .iload_n 2, 1, 2, 0), (48, .ireturn, 1, 0, 0)]
def gc_90 : List gc_O := [
  (0, .iload_n 1, 1, 1, 0), (1, .ifCond .lt 8, 3, 9, 0), (4, .iload_n 1, 1, 1, 0), (5, .iconst 2, 1, 2, 0), (6, .if_icmp .lt 5, 3, 11, 0), (9, .iconst (-1), 1, 1, 1),
  (10, .ireturn, 1, 0, 0), (11, .aload_n 0, 1, 0, 0), (12, .getfield 43, 3, 10, 5), (15, .iload_n 1, 1, 1, 0), (16, .aload_n 0, 1, 0, 0), (17, .getfield 26, 3, 10, 2),
  (20, .invokevirtual 306, 3, 29, 2), (23, .aload_n 0, 1, 0, 0), (24, .getfield 26, 3, 10, 2), (27, .getfield 167, 3, 3, 3), (30, .ireturn, 1, 0, 0)]
def gc_91 : List gc_O := [
  (0, .iload_n 1, 1, 1, 0), (1, .ifCond .lt 8, 3, 9, 0), (4, .iload_n 1, 1, 1, 0), (5, .iconst 2, 1, 2, 0), (6, .if_icmp .lt 5, 3, 11, 0), (9, .iconst (-1), 1, 1, 1),
  (10, .ireturn, 1, 0, 0), (11, .aload_n 0, 1, 0, 0), (12, .getfield 43, 3, 10, 5), (15, .iload_n 1, 1, 1, 0), (16, .aload_n 0, 1, 0, 0), (17, .getfield 26, 3, 10, 2),
  (20, .invokevirtual 310, 3, 30, 2), (23, .ifCond .ne 6, 3, 29, 0), (26, .bipush (-3), 2, 3, 1), (28, .ireturn, 1, 0, 0), (29, .aload_n 0, 1, 0, 0), (30, .getfield 36, 3, 10, 4),
  (33, .invokevirtual 107, 3, 1, 0), (36, .aload_n 0, 1, 0, 0), (37, .getfield 26, 3, 10, 2), (40, .getfield 167, 3, 3, 3), (43, .ireturn, 1, 0, 0)]
def gc_92 : List gc_O := [
  (0, .iload_n 1, 1, 1, 0), (1, .tableswitch 154 0 10 #[59, 67, 75, 83, 91, 99, 107, 115, 123, 138, 146], 59, 0, 0), (60, .aload_n 0, 1, 0, 0), (61, .getfield 10, 3, 10, 0), (64, .getfield 92, 3, 8, 1), (67, .ireturn, 1, 0, 0),
  (68, .aload_n 0, 1, 0, 0), (69, .getfield 19, 3, 10, 1), (72, .getfield 111, 3, 7, 3), (75, .ireturn, 1, 0, 0), (76, .aload_n 0, 1, 0, 0), (77, .getfield 19, 3, 10, 1),
  (80, .getfield 114, 3, 7, 4), (83, .ireturn, 1, 0, 0), (84, .aload_n 0, 1, 0, 0), (85, .getfield 19, 3, 10, 1), (88, .getfield 160, 3, 7, 0), (91, .ireturn, 1, 0, 0),
  (92, .aload_n 0, 1, 0, 0), (93, .getfield 19, 3, 10, 1), (96, .getfield 314, 3, 7, 1), (99, .ireturn, 1, 0, 0), (100, .aload_n 0, 1, 0, 0), (101, .getfield 19, 3, 10, 1),
  (104, .getfield 317, 3, 7, 2), (107, .ireturn, 1, 0, 0), (108, .aload_n 0, 1, 0, 0), (109, .getfield 26, 3, 10, 2), (112, .getfield 167, 3, 3, 3), (115, .ireturn, 1, 0, 0),
  (116, .aload_n 0, 1, 0, 0), (117, .getfield 26, 3, 10, 2), (120, .getfield 180, 3, 3, 1), (123, .ireturn, 1, 0, 0), (124, .aload_n 0, 1, 0, 0), (125, .getfield 19, 3, 10, 1),
  (128, .aload_n 0, 1, 0, 0), (129, .getfield 26, 3, 10, 2), (132, .getfield 120, 3, 3, 0), (135, .invokevirtual 142, 3, 35, 1), (138, .ireturn, 1, 0, 0), (139, .aload_n 0, 1, 0, 0),
  (140, .getfield 36, 3, 10, 4), (143, .getfield 187, 3, 0, 2), (146, .ireturn, 1, 0, 0), (147, .aload_n 0, 1, 0, 0), (148, .getfield 50, 3, 10, 6), (151, .getfield 258, 3, 5, 3),
  (154, .ireturn, 1, 0, 0), (155, .bipush (-2), 2, 2, 1), (157, .ireturn, 1, 0, 0)]
def gc_93 : List gc_O := [
  (0, .iload_n 0, 1, 0, 0), (1, .ifCond .lt 13, 3, 14, 0), (4, .iload_n 0, 1, 0, 0), (5, .bipush 10, 2, 10, 0), (7, .if_icmp .ge 7, 3, 14, 0), (10, .iconst 1, 1, 1, 0),
  (11, .goto 4, 3, 15, 0), (14, .iconst 0, 1, 0, 0), (15, .ireturn, 1, 0, 0)]
def gc_94 : List gc_O := [
  (0, .iload_n 0, 1, 0, 0), (1, .ifCond .lt 14, 3, 15, 0), (4, .iload_n 0, 1, 0, 0), (5, .sipush 256, 3, 256, 0), (8, .if_icmp .ge 7, 3, 15, 0), (11, .iconst 1, 1, 1, 0),
  (12, .goto 4, 3, 16, 0), (15, .iconst 0, 1, 0, 0), (16, .ireturn, 1, 0, 0)]
def gc_95 : List gc_O := [
  (0, .iload_n 0, 1, 0, 0), (1, .ifCond .lt 13, 3, 14, 0), (4, .iload_n 0, 1, 0, 0), (5, .bipush 10, 2, 10, 0), (7, .if_icmp .gt 7, 3, 14, 0), (10, .iconst 1, 1, 1, 0),
  (11, .goto 4, 3, 15, 0), (14, .iconst 0, 1, 0, 0), (15, .ireturn, 1, 0, 0)]
def gc_96 : List gc_O := [
  (0, .iload_n 0, 1, 0, 0), (1, .iload_n 1, 1, 1, 0), (2, .ishr, 1, 0, 0), (3, .iconst 1, 1, 1, 0), (4, .iand, 1, 0, 0), (5, .iconst 1, 1, 1, 0),
  (6, .if_icmp .ne 7, 3, 13, 0), (9, .iconst 1, 1, 1, 0), (10, .goto 4, 3, 14, 0), (13, .iconst 0, 1, 0, 0), (14, .ireturn, 1, 0, 0)]
def gc_97 : List gc_O := [
  (0, .aload_n 0, 1, 0, 0), (1, .getfield 19, 3, 10, 1), (4, .getfield 111, 3, 7, 3), (7, .aload_n 0, 1, 0, 0), (8, .getfield 26, 3, 10, 2), (11, .getfield 167, 3, 3, 3),
  (14, .isub, 1, 0, 0), (15, .ireturn, 1, 0, 0)]
def gc_98 : List gc_O := [
  (0, .aload_n 0, 1, 0, 0), (1, .getfield 59, 3, 10, 7), (4, .aload_n 0, 1, 0, 0), (5, .getfield 26, 3, 10, 2), (8, .aload_n 0, 1, 0, 0), (9, .getfield 19, 3, 10, 1),
  (12, .getfield 160, 3, 7, 0), (15, .invokevirtual 163, 3, 50, 2), (18, .aload_n 0, 1, 0, 0), (19, .getfield 59, 3, 10, 7), (22, .iload_n 1, 1, 1, 0), (23, .iconst 0, 1, 0, 0),
  (24, .invokevirtual 170, 3, 53, 2), (27, .return_, 1, 0, 0)]
def gc_99 : List gc_O := [
  (0, .iload_n 0, 1, 0, 0), (1, .iconst 1, 1, 1, 0), (2, .isub, 1, 0, 0), (3, .iload_n 2, 1, 2, 0), (4, .isub, 1, 0, 0), (5, .istore_n 3, 1, 3, 0),
  (6, .iload_n 3, 1, 3, 0), (7, .ifCond .lt 24, 3, 31, 0), (10, .iload_n 3, 1, 3, 0), (11, .getstatic 231, 3, 2, 0), (14, .arraylength, 1, 0, 0), (15, .if_icmp .ge 16, 3, 31, 0),
  (18, .iload_n 1, 1, 1, 0), (19, .getstatic 231, 3, 2, 0), (22, .iload_n 3, 1, 3, 0), (23, .iaload, 1, 0, 0), (24, .idiv, 1, 0, 0), (25, .bipush 10, 2, 10, 0),
  (27, .irem, 1, 0, 0), (28, .goto 4, 3, 32, 0), (31, .iconst 0, 1, 0, 0), (32, .ireturn, 1, 0, 0)]
def gc_100 : List gc_O := [
  (0, .iconst 0, 1, 0, 0), (1, .istore_n 3, 1, 3, 0), (2, .iconst 0, 1, 0, 0), (3, .istore 4, 2, 4, 0), (5, .iload 4, 2, 4, 0), (7, .iload_n 1, 1, 1, 0),
  (8, .if_icmp .ge 35, 3, 43, 0), (11, .iload_n 1, 1, 1, 0), (12, .iload_n 2, 1, 2, 0), (13, .iload 4, 2, 4, 0), (15, .invokestatic 241, 3, 99, 3), (18, .iconst 1, 1, 1, 0),
  (19, .if_icmp .ne 18, 3, 37, 0), (22, .iload_n 3, 1, 3, 0), (23, .iconst 1, 1, 1, 0), (24, .aload_n 0, 1, 0, 0), (25, .getfield 26, 3, 10, 2), (28, .getfield 167, 3, 3, 3),
  (31, .iload 4, 2, 4, 0), (33, .iadd, 1, 0, 0), (34, .ishl, 1, 0, 0), (35, .ior, 1, 0, 0), (36, .istore_n 3, 1, 3, 0), (37, .iinc 4 1, 3, 1, 0),
  (40, .goto (-35), 3, 5, 0), (43, .iload_n 3, 1, 3, 0), (44, .ireturn, 1, 0, 0)]
def gc_101 : List gc_O := [
  (0, .iconst 0, 1, 0, 0), (1, .istore_n 1, 1, 1, 0), (2, .aload_n 0, 1, 0, 0), (3, .getfield 26, 3, 10, 2), (6, .getfield 167, 3, 3, 3), (9, .istore_n 2, 1, 2, 0),
  (10, .iload_n 2, 1, 2, 0), (11, .aload_n 0, 1, 0, 0), (12, .getfield 19, 3, 10, 1), (15, .getfield 111, 3, 7, 3), (18, .if_icmp .ge 47, 3, 65, 0), (21, .aload_n 0, 1, 0, 0),
  (22, .aload_n 0, 1, 0, 0), (23, .getfield 299, 3, 10, 11), (26, .ldc2_w 320, 3, 6364136223846793005, 0), (29, .lmul, 1, 0, 0), (30, .ldc2_w 322, 3, 1442695040888963407, 0), (33, .ladd, 1, 0, 0),
  (34, .putfield 299, 3, 10, 11), (37, .aload_n 0, 1, 0, 0), (38, .getfield 299, 3, 10, 11), (41, .bipush 33, 2, 33, 0), (43, .lushr, 1, 0, 0), (44, .ldc2_w 324, 3, 2, 0),
  (47, .lrem, 1, 0, 0), (48, .lconst 1, 1, 1, 0), (49, .lcmp, 1, 0, 0), (50, .ifCond .ne 9, 3, 59, 0), (53, .iload_n 1, 1, 1, 0), (54, .iconst 1, 1, 1, 0),
  (55, .iload_n 2, 1, 2, 0), (56, .ishl, 1, 0, 0), (57, .ior, 1, 0, 0), (58, .istore_n 1, 1, 1, 0), (59, .iinc 2 1, 3, 1, 0), (62, .goto (-52), 3, 10, 0),
  (65, .iload_n 1, 1, 1, 0), (66, .ireturn, 1, 0, 0)]
def gc_102 : List gc_O := [
  (0, .aload_n 0, 1, 0, 0), (1, .getfield 59, 3, 10, 7), (4, .aload_n 0, 1, 0, 0), (5, .getfield 26, 3, 10, 2), (8, .aload_n 0, 1, 0, 0), (9, .getfield 19, 3, 10, 1),
  (12, .getfield 160, 3, 7, 0), (15, .invokevirtual 163, 3, 50, 2), (18, .lconst 0, 1, 0, 0), (19, .lstore 4, 2, 4, 0), (21, .iconst 0, 1, 0, 0), (22, .istore 6, 2, 6, 0),
  (24, .iload 6, 2, 6, 0), (26, .aload_n 0, 1, 0, 0), (27, .getfield 59, 3, 10, 7), (30, .invokevirtual 326, 3, 51, 0), (33, .if_icmp .ge 95, 3, 128, 0), (36, .aload_n 0, 1, 0, 0),
  (37, .getfield 59, 3, 10, 7), (40, .iload 6, 2, 6, 0), (42, .invokevirtual 329, 3, 52, 1), (45, .istore 7, 2, 7, 0), (47, .aload_n 0, 1, 0, 0), (48, .getfield 59, 3, 10, 7),
  (51, .iload_n 2, 1, 2, 0), (52, .iload 7, 2, 7, 0), (54, .invokevirtual 170, 3, 53, 2), (57, .iload 7, 2, 7, 0), (59, .invokestatic 332, 3, 163, 1), (62, .istore 8, 2, 8, 0),
  (64, .iload_n 3, 1, 3, 0), (65, .iload 8, 2, 8, 0), (67, .invokestatic 280, 3, 103, 2), (70, .bipush 10, 2, 10, 0), (72, .iload_n 3, 1, 3, 0), (73, .isub, 1, 0, 0),
  (74, .aload_n 0, 1, 0, 0), (75, .getfield 59, 3, 10, 7), (78, .getfield 238, 3, 9, 12), (81, .iload 8, 2, 8, 0), (83, .isub, 1, 0, 0), (84, .invokestatic 280, 3, 103, 2),
  (87, .lmul, 1, 0, 0), (88, .lstore 9, 2, 9, 0), (90, .lload 4, 2, 4, 0), (92, .lload 9, 2, 9, 0), (94, .iload_n 1, 1, 1, 0), (95, .iconst (-1), 1, 1, 1),
  (96, .if_icmp .ne 13, 3, 109, 0), (99, .aload_n 0, 1, 0, 0), (100, .getfield 59, 3, 10, 7), (103, .invokevirtual 198, 3, 58, 0), (106, .goto 11, 3, 117, 0), (109, .aload_n 0, 1, 0, 0),
  (110, .getfield 59, 3, 10, 7), (113, .iload_n 1, 1, 1, 0), (114, .invokevirtual 337, 3, 60, 1), (117, .i2l, 1, 0, 0), (118, .lmul, 1, 0, 0), (119, .ladd, 1, 0, 0),
  (120, .lstore 4, 2, 4, 0), (122, .iinc 6 1, 3, 1, 0), (125, .goto (-101), 3, 24, 0), (128, .lload 4, 2, 4, 0), (130, .lreturn, 1, 0, 0)]
def gc_103 : List gc_O := [
  (0, .lconst 1, 1, 1, 0), (1, .lstore_n 2, 1, 2, 0), (2, .iconst 0, 1, 0, 0), (3, .istore 4, 2, 4, 0), (5, .iload 4, 2, 4, 0), (7, .iload_n 1, 1, 1, 0),
  (8, .if_icmp .ge 14, 3, 22, 0), (11, .lload_n 2, 1, 2, 0), (12, .iload_n 0, 1, 0, 0), (13, .i2l, 1, 0, 0), (14, .lmul, 1, 0, 0), (15, .lstore_n 2, 1, 2, 0),
  (16, .iinc 4 1, 3, 1, 0), (19, .goto (-14), 3, 5, 0), (22, .lload_n 2, 1, 2, 0), (23, .lreturn, 1, 0, 0)]
def gc_104 : List gc_O := [
  (0, .lload_n 0, 1, 0, 0), (1, .invokestatic 340, 3, 1005, 1), (4, .lload_n 2, 1, 2, 0), (5, .invokestatic 346, 3, 105, 2), (8, .lstore 5, 2, 5, 0), (10, .iload 4, 2, 4, 0),
  (12, .ifCond .eq 7, 3, 19, 0), (15, .lload_n 0, 1, 0, 0), (16, .goto 4, 3, 20, 0), (19, .lload_n 2, 1, 2, 0), (20, .lload 5, 2, 5, 0), (22, .ldiv, 1, 0, 0),
  (23, .lreturn, 1, 0, 0)]
def gc_105 : List gc_O := [
  (0, .iconst 0, 1, 0, 0), (1, .istore 4, 2, 4, 0), (3, .iload 4, 2, 4, 0), (5, .bipush 100, 2, 100, 0), (7, .if_icmp .ge 25, 3, 32, 0), (10, .lload_n 2, 1, 2, 0),
  (11, .lconst 0, 1, 0, 0), (12, .lcmp, 1, 0, 0), (13, .ifCond .eq 19, 3, 32, 0), (16, .lload_n 0, 1, 0, 0), (17, .lload_n 2, 1, 2, 0), (18, .lrem, 1, 0, 0),
  (19, .lstore 5, 2, 5, 0), (21, .lload_n 2, 1, 2, 0), (22, .lstore_n 0, 1, 0, 0), (23, .lload 5, 2, 5, 0), (25, .lstore_n 2, 1, 2, 0), (26, .iinc 4 1, 3, 1, 0),
  (29, .goto (-26), 3, 3, 0), (32, .lload_n 0, 1, 0, 0), (33, .lconst 1, 1, 1, 0), (34, .invokestatic 350, 3, 1004, 2), (37, .lreturn, 1, 0, 0)]
def gc_106 : List gc_O := [
  (0, .aload_n 0, 1, 0, 0), (1, .invokespecial 1, 3, 1000, 0), (4, .aload_n 0, 1, 0, 0), (5, .bipush 8, 2, 8, 0), (7, .newarray .int, 2, 12, 0), (9, .putfield 7, 3, 11, 5),
  (12, .aload_n 0, 1, 0, 0), (13, .bipush 8, 2, 8, 0), (15, .newarray .int, 2, 12, 0), (17, .putfield 13, 3, 11, 6), (20, .aload_n 0, 1, 0, 0), (21, .bipush 24, 2, 24, 0),
  (23, .newarray .int, 2, 12, 0), (25, .putfield 16, 3, 11, 7), (28, .aload_n 0, 1, 0, 0), (29, .iconst 4, 1, 4, 0), (30, .newarray .int, 2, 12, 0), (32, .putfield 19, 3, 11, 8),
  (35, .aload_n 0, 1, 0, 0), (36, .bipush 8, 2, 8, 0), (38, .newarray .int, 2, 12, 0), (40, .putfield 22, 3, 11, 9), (43, .aload_n 0, 1, 0, 0), (44, .bipush 24, 2, 24, 0),
  (46, .newarray .int, 2, 12, 0), (48, .putfield 25, 3, 11, 10), (51, .aload_n 0, 1, 0, 0), (52, .bipush 52, 2, 52, 0), (54, .newarray .int, 2, 12, 0), (56, .putfield 28, 3, 11, 13),
  (59, .aload_n 0, 1, 0, 0), (60, .bipush 48, 2, 48, 0), (62, .newarray .int, 2, 12, 0), (64, .putfield 31, 3, 11, 14), (67, .aload_n 0, 1, 0, 0), (68, .bipush 10, 2, 10, 0),
  (70, .newarray .int, 2, 12, 0), (72, .putfield 34, 3, 11, 18), (75, .aload_n 0, 1, 0, 0), (76, .sipush 182, 3, 182, 0), (79, .newarray .int, 2, 12, 0), (81, .putfield 37, 3, 11, 21),
  (84, .aload_n 0, 1, 0, 0), (85, .bipush 64, 2, 64, 0), (87, .newarray .int, 2, 12, 0), (89, .putfield 40, 3, 11, 24), (92, .aload_n 0, 1, 0, 0), (93, .bipush 6, 2, 6, 0),
  (95, .newarray .int, 2, 12, 0), (97, .putfield 43, 3, 11, 26), (100, .aload_n 0, 1, 0, 0), (101, .bipush 6, 2, 6, 0), (103, .newarray .int, 2, 12, 0), (105, .putfield 46, 3, 11, 27),
  (108, .aload_n 0, 1, 0, 0), (109, .bipush 6, 2, 6, 0), (111, .newarray .boolean, 2, 13, 0), (113, .putfield 49, 3, 11, 28), (116, .aload_n 0, 1, 0, 0), (117, .bipush 100, 2, 100, 0),
  (119, .newarray .int, 2, 12, 0), (121, .putfield 53, 3, 11, 32), (124, .aload_n 0, 1, 0, 0), (125, .bipush 100, 2, 100, 0), (127, .newarray .int, 2, 12, 0), (129, .putfield 56, 3, 11, 33),
  (132, .aload_n 0, 1, 0, 0), (133, .iconst 2, 1, 2, 0), (134, .newarray .boolean, 2, 13, 0), (136, .putfield 59, 3, 11, 35), (139, .aload_n 0, 1, 0, 0), (140, .bipush 26, 2, 26, 0),
  (142, .newarray .int, 2, 12, 0), (144, .putfield 62, 3, 11, 36), (147, .aload_n 0, 1, 0, 0), (148, .iconst 1, 1, 1, 0), (149, .putfield 65, 3, 11, 1), (152, .return_, 1, 0, 0)]
def gc_107 : List gc_O := [
  (0, .lload_n 0, 1, 0, 0), (1, .lload_n 2, 1, 2, 0), (2, .lcmp, 1, 0, 0), (3, .ifCond .lt 14, 3, 17, 0), (6, .lload_n 0, 1, 0, 0), (7, .lload 4, 2, 4, 0),
  (9, .lcmp, 1, 0, 0), (10, .ifCond .gt 7, 3, 17, 0), (13, .iconst 1, 1, 1, 0), (14, .goto 4, 3, 18, 0), (17, .iconst 0, 1, 0, 0), (18, .ireturn, 1, 0, 0)]
def gc_108 : List gc_O := [
  (0, .iload_n 0, 1, 0, 0), (1, .iload_n 1, 1, 1, 0), (2, .ishr, 1, 0, 0), (3, .iconst 1, 1, 1, 0), (4, .iand, 1, 0, 0), (5, .iconst 1, 1, 1, 0),
  (6, .if_icmp .ne 7, 3, 13, 0), (9, .iconst 1, 1, 1, 0), (10, .goto 4, 3, 14, 0), (13, .iconst 0, 1, 0, 0), (14, .ireturn, 1, 0, 0)]
def gc_109 : List gc_O := [
  (0, .iconst 0, 1, 0, 0), (1, .istore_n 1, 1, 1, 0), (2, .iconst 0, 1, 0, 0), (3, .istore_n 2, 1, 2, 0), (4, .iload_n 2, 1, 2, 0), (5, .bipush 8, 2, 8, 0),
  (7, .if_icmp .ge 17, 3, 24, 0), (10, .iload_n 1, 1, 1, 0), (11, .iload_n 0, 1, 0, 0), (12, .iload_n 2, 1, 2, 0), (13, .ishr, 1, 0, 0), (14, .iconst 1, 1, 1, 0),
  (15, .iand, 1, 0, 0), (16, .iadd, 1, 0, 0), (17, .istore_n 1, 1, 1, 0), (18, .iinc 2 1, 3, 1, 0), (21, .goto (-17), 3, 4, 0), (24, .iload_n 1, 1, 1, 0),
  (25, .ireturn, 1, 0, 0)]
def gc_110 : List gc_O := [
  (0, .iload_n 1, 1, 1, 0), (1, .i2l, 1, 0, 0), (2, .lconst 0, 1, 0, 0), (3, .ldc2_w 69, 3, 255, 0), (6, .invokestatic 71, 3, 107, 3), (9, .ifCond .ne 6, 3, 15, 0),
  (12, .bipush (-2), 2, 2, 1), (14, .ireturn, 1, 0, 0), (15, .aload_n 0, 1, 0, 0), (16, .getfield 75, 3, 11, 15), (19, .bipush 48, 2, 48, 0), (21, .if_icmp .ne 6, 3, 27, 0),
  (24, .bipush (-4), 2, 4, 1), (26, .ireturn, 1, 0, 0), (27, .aload_n 0, 1, 0, 0), (28, .getfield 31, 3, 11, 14), (31, .aload_n 0, 1, 0, 0), (32, .getfield 75, 3, 11, 15),
  (35, .iload_n 1, 1, 1, 0), (36, .iastore, 1, 0, 0), (37, .aload_n 0, 1, 0, 0), (38, .dup, 1, 0, 0), (39, .getfield 75, 3, 11, 15), (42, .iconst 1, 1, 1, 0),
  (43, .iadd, 1, 0, 0), (44, .putfield 75, 3, 11, 15), (47, .aload_n 0, 1, 0, 0), (48, .getfield 75, 3, 11, 15), (51, .ireturn, 1, 0, 0)]
def gc_111 : List gc_O := [
  (0, .aload_n 0, 1, 0, 0), (1, .getfield 75, 3, 11, 15), (4, .istore_n 1, 1, 1, 0), (5, .aload_n 0, 1, 0, 0), (6, .iconst 0, 1, 0, 0), (7, .putfield 75, 3, 11, 15),
  (10, .iload_n 1, 1, 1, 0), (11, .ireturn, 1, 0, 0)]
def gc_112 : List gc_O := [
  (0, .aload_n 0, 1, 0, 0), (1, .getfield 78, 3, 11, 17), (4, .bipush (-99), 2, 99, 1), (6, .if_icmp .ne 29, 3, 35, 0), (9, .aload_n 0, 1, 0, 0), (10, .getfield 81, 3, 11, 16),
  (13, .aload_n 0, 1, 0, 0), (14, .getfield 75, 3, 11, 15), (17, .if_icmp .ge 18, 3, 35, 0), (20, .aload_n 0, 1, 0, 0), (21, .getfield 31, 3, 11, 14), (24, .aload_n 0, 1, 0, 0),
  (25, .getfield 81, 3, 11, 16), (28, .iaload, 1, 0, 0), (29, .bipush 48, 2, 48, 0), (31, .isub, 1, 0, 0), (32, .goto 4, 3, 36, 0), (35, .iconst (-1), 1, 1, 1),
  (36, .istore_n 3, 1, 3, 0), (37, .iload_n 3, 1, 3, 0), (38, .i2l, 1, 0, 0), (39, .iload_n 1, 1, 1, 0), (40, .i2l, 1, 0, 0), (41, .iload_n 2, 1, 2, 0),
  (42, .i2l, 1, 0, 0), (43, .invokestatic 71, 3, 107, 3), (46, .ifCond .ne 29, 3, 75, 0), (49, .aload_n 0, 1, 0, 0), (50, .aload_n 0, 1, 0, 0), (51, .getfield 78, 3, 11, 17),
  (54, .bipush (-99), 2, 99, 1), (56, .if_icmp .ne 10, 3, 66, 0), (59, .aload_n 0, 1, 0, 0), (60, .getfield 81, 3, 11, 16), (63, .goto 7, 3, 70, 0), (66, .aload_n 0, 1, 0, 0),
  (67, .getfield 78, 3, 11, 17), (70, .putfield 78, 3, 11, 17), (73, .iload_n 1, 1, 1, 0), (74, .ireturn, 1, 0, 0), (75, .aload_n 0, 1, 0, 0), (76, .dup, 1, 0, 0),
  (77, .getfield 81, 3, 11, 16), (80, .iconst 1, 1, 1, 0), (81, .iadd, 1, 0, 0), (82, .putfield 81, 3, 11, 16), (85, .iload_n 3, 1, 3, 0), (86, .ireturn, 1, 0, 0)]
def gc_113 : List gc_O := [
  (0, .iload_n 0, 1, 0, 0), (1, .bipush 69, 2, 69, 0), (3, .if_icmp .eq 15, 3, 18, 0), (6, .iload_n 0, 1, 0, 0), (7, .bipush 87, 2, 87, 0), (9, .if_icmp .eq 9, 3, 18, 0),
  (12, .iload_n 0, 1, 0, 0), (13, .bipush 45, 2, 45, 0), (15, .if_icmp .ne 7, 3, 22, 0), (18, .iconst 1, 1, 1, 0), (19, .goto 4, 3, 23, 0), (22, .iconst 0, 1, 0, 0),
  (23, .ireturn, 1, 0, 0)]
def gc_114 : List gc_O := [
  (0, .aload_n 0, 1, 0, 0), (1, .iconst 0, 1, 0, 0), (2, .putfield 81, 3, 11, 16), (5, .aload_n 0, 1, 0, 0), (6, .bipush (-99), 2, 99, 1), (8, .putfield 78, 3, 11, 17),
  (11, .aload_n 0, 1, 0, 0), (12, .iconst 0, 1, 0, 0), (13, .putfield 84, 3, 11, 11), (16, .aload_n 0, 1, 0, 0), (17, .iconst 0, 1, 0, 0), (18, .putfield 87, 3, 11, 12),
  (21, .aload_n 0, 1, 0, 0), (22, .getfield 75, 3, 11, 15), (25, .ifCond .eq 14, 3, 39, 0), (28, .aload_n 0, 1, 0, 0), (29, .getfield 31, 3, 11, 14), (32, .iconst 0, 1, 0, 0),
  (33, .iaload, 1, 0, 0), (34, .bipush 83, 2, 83, 0), (36, .if_icmp .eq 5, 3, 41, 0), (39, .iconst 0, 1, 0, 0), (40, .ireturn, 1, 0, 0), (41, .aload_n 0, 1, 0, 0),
  (42, .iconst 1, 1, 1, 0), (43, .putfield 81, 3, 11, 16), (46, .aload_n 0, 1, 0, 0), (47, .getfield 19, 3, 11, 8), (50, .iconst 1, 1, 1, 0), (51, .aload_n 0, 1, 0, 0),
  (52, .iconst 0, 1, 0, 0), (53, .bipush 9, 2, 9, 0), (55, .invokevirtual 90, 3, 112, 2), (58, .iastore, 1, 0, 0), (59, .aload_n 0, 1, 0, 0), (60, .getfield 19, 3, 11, 8),
  (63, .iconst 2, 1, 2, 0), (64, .aload_n 0, 1, 0, 0), (65, .iconst 1, 1, 1, 0), (66, .bipush 9, 2, 9, 0), (68, .invokevirtual 90, 3, 112, 2), (71, .iastore, 1, 0, 0),
  (72, .aload_n 0, 1, 0, 0), (73, .getfield 19, 3, 11, 8), (76, .iconst 3, 1, 3, 0), (77, .aload_n 0, 1, 0, 0), (78, .iconst 0, 1, 0, 0), (79, .bipush 9, 2, 9, 0),
  (81, .invokevirtual 90, 3, 112, 2), (84, .iastore, 1, 0, 0), (85, .aload_n 0, 1, 0, 0), (86, .getfield 78, 3, 11, 17), (89, .bipush (-99), 2, 99, 1), (91, .if_icmp .ne 107, 3, 198, 0),
  (94, .aload_n 0, 1, 0, 0), (95, .getfield 81, 3, 11, 16), (98, .aload_n 0, 1, 0, 0), (99, .getfield 75, 3, 11, 15), (102, .if_icmp .ge 96, 3, 198, 0), (105, .aload_n 0, 1, 0, 0),
  (106, .getfield 84, 3, 11, 11), (109, .bipush 8, 2, 8, 0), (111, .if_icmp .ge 87, 3, 198, 0), (114, .aload_n 0, 1, 0, 0), (115, .getfield 31, 3, 11, 14), (118, .aload_n 0, 1, 0, 0),
  (119, .getfield 81, 3, 11, 16), (122, .iaload, 1, 0, 0), (123, .invokestatic 94, 3, 113, 1), (126, .ifCond .eq 72, 3, 198, 0), (129, .aload_n 0, 1, 0, 0), (130, .getfield 22, 3, 11, 9),
  (133, .aload_n 0, 1, 0, 0), (134, .getfield 84, 3, 11, 11), (137, .aload_n 0, 1, 0, 0), (138, .getfield 31, 3, 11, 14), (141, .aload_n 0, 1, 0, 0), (142, .getfield 81, 3, 11, 16),
  (145, .iaload, 1, 0, 0), (146, .bipush 69, 2, 69, 0), (148, .if_icmp .ne 7, 3, 155, 0), (151, .iconst 1, 1, 1, 0), (152, .goto 22, 3, 174, 0), (155, .aload_n 0, 1, 0, 0),
  (156, .getfield 31, 3, 11, 14), (159, .aload_n 0, 1, 0, 0), (160, .getfield 81, 3, 11, 16), (163, .iaload, 1, 0, 0), (164, .bipush 87, 2, 87, 0), (166, .if_icmp .ne 7, 3, 173, 0),
  (169, .iconst (-1), 1, 1, 1), (170, .goto 4, 3, 174, 0), (173, .iconst 0, 1, 0, 0), (174, .iastore, 1, 0, 0), (175, .aload_n 0, 1, 0, 0), (176, .dup, 1, 0, 0),
  (177, .getfield 84, 3, 11, 11), (180, .iconst 1, 1, 1, 0), (181, .iadd, 1, 0, 0), (182, .putfield 84, 3, 11, 11), (185, .aload_n 0, 1, 0, 0), (186, .dup, 1, 0, 0),
  (187, .getfield 81, 3, 11, 16), (190, .iconst 1, 1, 1, 0), (191, .iadd, 1, 0, 0), (192, .putfield 81, 3, 11, 16), (195, .goto (-110), 3, 85, 0), (198, .aload_n 0, 1, 0, 0),
  (199, .getfield 78, 3, 11, 17), (202, .bipush (-99), 2, 99, 1), (204, .if_icmp .ne 55, 3, 259, 0), (207, .aload_n 0, 1, 0, 0), (208, .getfield 81, 3, 11, 16), (211, .aload_n 0, 1, 0, 0),
  (212, .getfield 75, 3, 11, 15), (215, .if_icmp .ge 44, 3, 259, 0), (218, .aload_n 0, 1, 0, 0), (219, .getfield 31, 3, 11, 14), (222, .aload_n 0, 1, 0, 0), (223, .getfield 81, 3, 11, 16),
  (226, .iaload, 1, 0, 0), (227, .bipush 78, 2, 78, 0), (229, .if_icmp .ne 19, 3, 248, 0), (232, .aload_n 0, 1, 0, 0), (233, .getfield 87, 3, 11, 12), (236, .bipush 6, 2, 6, 0),
  (238, .if_icmp .ge 10, 3, 248, 0), (241, .aload_n 0, 1, 0, 0), (242, .invokevirtual 98, 3, 115, 0), (245, .goto (-47), 3, 198, 0), (248, .aload_n 0, 1, 0, 0), (249, .aload_n 0, 1, 0, 0),
  (250, .getfield 81, 3, 11, 16), (253, .putfield 78, 3, 11, 17), (256, .goto (-58), 3, 198, 0), (259, .aload_n 0, 1, 0, 0), (260, .getfield 78, 3, 11, 17), (263, .ireturn, 1, 0, 0)]
def gc_115 : List gc_O := [
  (0, .aload_n 0, 1, 0, 0), (1, .dup, 1, 0, 0), (2, .getfield 81, 3, 11, 16), (5, .iconst 1, 1, 1, 0), (6, .iadd, 1, 0, 0), (7, .putfield 81, 3, 11, 16),
  (10, .iconst 4, 1, 4, 0), (11, .aload_n 0, 1, 0, 0), (12, .getfield 87, 3, 11, 12), (15, .imul, 1, 0, 0), (16, .istore_n 1, 1, 1, 0), (17, .aload_n 0, 1, 0, 0),
  (18, .getfield 25, 3, 11, 10), (21, .iload_n 1, 1, 1, 0), (22, .aload_n 0, 1, 0, 0), (23, .iconst 0, 1, 0, 0), (24, .bipush 9, 2, 9, 0), (26, .invokevirtual 90, 3, 112, 2),
  (29, .iastore, 1, 0, 0), (30, .aload_n 0, 1, 0, 0), (31, .getfield 25, 3, 11, 10), (34, .iload_n 1, 1, 1, 0), (35, .iconst 1, 1, 1, 0), (36, .iadd, 1, 0, 0),
  (37, .aload_n 0, 1, 0, 0), (38, .iconst 1, 1, 1, 0), (39, .bipush 9, 2, 9, 0), (41, .invokevirtual 90, 3, 112, 2), (44, .iastore, 1, 0, 0), (45, .aload_n 0, 1, 0, 0),
  (46, .getfield 25, 3, 11, 10), (49, .iload_n 1, 1, 1, 0), (50, .iconst 2, 1, 2, 0), (51, .iadd, 1, 0, 0), (52, .aload_n 0, 1, 0, 0), (53, .iconst 0, 1, 0, 0),
  (54, .bipush 9, 2, 9, 0), (56, .invokevirtual 90, 3, 112, 2), (59, .iastore, 1, 0, 0), (60, .aload_n 0, 1, 0, 0), (61, .getfield 25, 3, 11, 10), (64, .iload_n 1, 1, 1, 0),
  (65, .iconst 3, 1, 3, 0), (66, .iadd, 1, 0, 0), (67, .aload_n 0, 1, 0, 0), (68, .iconst 0, 1, 0, 0), (69, .iconst 3, 1, 3, 0), (70, .invokevirtual 90, 3, 112, 2),
  (73, .iastore, 1, 0, 0), (74, .aload_n 0, 1, 0, 0), (75, .dup, 1, 0, 0), (76, .getfield 87, 3, 11, 12), (79, .iconst 1, 1, 1, 0), (80, .iadd, 1, 0, 0),
  (81, .putfield 87, 3, 11, 12), (84, .return_, 1, 0, 0)]
def gc_116 : List gc_O := [
  (0, .aload_n 0, 1, 0, 0), (1, .invokevirtual 100, 3, 114, 0), (4, .ireturn, 1, 0, 0)]
def gc_117 : List gc_O := [
  (0, .aload_n 0, 1, 0, 0), (1, .invokevirtual 100, 3, 114, 0), (4, .bipush (-99), 2, 99, 1), (6, .if_icmp .eq 6, 3, 12, 0), (9, .bipush (-3), 2, 3, 1), (11, .ireturn, 1, 0, 0),
  (12, .aload_n 0, 1, 0, 0), (13, .aload_n 0, 1, 0, 0), (14, .getfield 19, 3, 11, 8), (17, .iconst 1, 1, 1, 0), (18, .iaload, 1, 0, 0), (19, .putfield 104, 3, 11, 0),
  (22, .aload_n 0, 1, 0, 0), (23, .aload_n 0, 1, 0, 0), (24, .getfield 19, 3, 11, 8), (27, .iconst 2, 1, 2, 0), (28, .iaload, 1, 0, 0), (29, .putfield 65, 3, 11, 1),
  (32, .aload_n 0, 1, 0, 0), (33, .aload_n 0, 1, 0, 0), (34, .getfield 19, 3, 11, 8), (37, .iconst 3, 1, 3, 0), (38, .iaload, 1, 0, 0), (39, .putfield 107, 3, 11, 2),
  (42, .aload_n 0, 1, 0, 0), (43, .aload_n 0, 1, 0, 0), (44, .getfield 84, 3, 11, 11), (47, .putfield 110, 3, 11, 3), (50, .aload_n 0, 1, 0, 0), (51, .aload_n 0, 1, 0, 0),
  (52, .getfield 87, 3, 11, 12), (55, .putfield 113, 3, 11, 4), (58, .iconst 0, 1, 0, 0), (59, .istore_n 1, 1, 1, 0), (60, .iload_n 1, 1, 1, 0), (61, .bipush 8, 2, 8, 0),
  (63, .if_icmp .ge 21, 3, 84, 0), (66, .aload_n 0, 1, 0, 0), (67, .getfield 7, 3, 11, 5), (70, .iload_n 1, 1, 1, 0), (71, .aload_n 0, 1, 0, 0), (72, .getfield 22, 3, 11, 9),
  (75, .iload_n 1, 1, 1, 0), (76, .iaload, 1, 0, 0), (77, .iastore, 1, 0, 0), (78, .iinc 1 1, 3, 1, 0), (81, .goto (-21), 3, 60, 0), (84, .iconst 0, 1, 0, 0),
  (85, .istore_n 1, 1, 1, 0), (86, .iload_n 1, 1, 1, 0), (87, .bipush 24, 2, 24, 0), (89, .if_icmp .ge 21, 3, 110, 0), (92, .aload_n 0, 1, 0, 0), (93, .getfield 16, 3, 11, 7),
  (96, .iload_n 1, 1, 1, 0), (97, .aload_n 0, 1, 0, 0), (98, .getfield 25, 3, 11, 10), (101, .iload_n 1, 1, 1, 0), (102, .iaload, 1, 0, 0), (103, .iastore, 1, 0, 0),
  (104, .iinc 1 1, 3, 1, 0), (107, .goto (-21), 3, 86, 0), (110, .iconst 0, 1, 0, 0), (111, .istore_n 1, 1, 1, 0), (112, .iload_n 1, 1, 1, 0), (113, .bipush 13, 2, 13, 0),
  (115, .if_icmp .ge 16, 3, 131, 0), (118, .aload_n 0, 1, 0, 0), (119, .getfield 28, 3, 11, 13), (122, .iload_n 1, 1, 1, 0), (123, .iconst 0, 1, 0, 0), (124, .iastore, 1, 0, 0),
  (125, .iinc 1 1, 3, 1, 0), (128, .goto (-16), 3, 112, 0), (131, .aload_n 0, 1, 0, 0), (132, .iconst 0, 1, 0, 0), (133, .putfield 116, 3, 11, 19), (136, .aload_n 0, 1, 0, 0),
  (137, .getfield 59, 3, 11, 35), (140, .iconst 0, 1, 0, 0), (141, .iconst 0, 1, 0, 0), (142, .bastore, 1, 0, 0), (143, .aload_n 0, 1, 0, 0), (144, .getfield 59, 3, 11, 35),
  (147, .iconst 1, 1, 1, 0), (148, .iconst 0, 1, 0, 0), (149, .bastore, 1, 0, 0), (150, .bipush 10, 2, 10, 0), (152, .aload_n 0, 1, 0, 0), (153, .getfield 110, 3, 11, 3),
  (156, .imul, 1, 0, 0), (157, .aload_n 0, 1, 0, 0), (158, .getfield 113, 3, 11, 4), (161, .iadd, 1, 0, 0), (162, .ireturn, 1, 0, 0)]
def gc_118 : List gc_O := [
  (0, .iload_n 1, 1, 1, 0), (1, .i2l, 1, 0, 0), (2, .lconst 0, 1, 0, 0), (3, .aload_n 0, 1, 0, 0), (4, .getfield 113, 3, 11, 4), (7, .iconst 1, 1, 1, 0),
  (8, .isub, 1, 0, 0), (9, .i2l, 1, 0, 0), (10, .invokestatic 71, 3, 107, 3), (13, .ireturn, 1, 0, 0)]
def gc_119 : List gc_O := [
  (0, .iload_n 1, 1, 1, 0), (1, .i2l, 1, 0, 0), (2, .lconst 0, 1, 0, 0), (3, .ldc2_w 119, 3, 9, 0), (6, .invokestatic 71, 3, 107, 3), (9, .ifCond .eq 12, 3, 21, 0),
  (12, .aload_n 0, 1, 0, 0), (13, .getfield 28, 3, 11, 13), (16, .iload_n 1, 1, 1, 0), (17, .iaload, 1, 0, 0), (18, .goto 5, 3, 23, 0), (21, .bipush (-2), 2, 2, 1),
  (23, .ireturn, 1, 0, 0)]
def gc_120 : List gc_O := [
  (0, .iload_n 1, 1, 1, 0), (1, .i2l, 1, 0, 0), (2, .lconst 0, 1, 0, 0), (3, .aload_n 0, 1, 0, 0), (4, .getfield 110, 3, 11, 3), (7, .iconst 1, 1, 1, 0),
  (8, .isub, 1, 0, 0), (9, .i2l, 1, 0, 0), (10, .invokestatic 71, 3, 107, 3), (13, .ifCond .eq 12, 3, 25, 0), (16, .aload_n 0, 1, 0, 0), (17, .getfield 7, 3, 11, 5),
  (20, .iload_n 1, 1, 1, 0), (21, .iaload, 1, 0, 0), (22, .goto 5, 3, 27, 0), (25, .bipush (-99), 2, 99, 1), (27, .ireturn, 1, 0, 0)]
def gc_121 : List gc_O := [
  (0, .aload_n 0, 1, 0, 0), (1, .getfield 28, 3, 11, 13), (4, .bipush 13, 2, 13, 0), (6, .iload_n 1, 1, 1, 0), (7, .imul, 1, 0, 0), (8, .aload_n 0, 1, 0, 0),
  (9, .getfield 16, 3, 11, 7), (12, .iconst 4, 1, 4, 0), (13, .iload_n 2, 1, 2, 0), (14, .imul, 1, 0, 0), (15, .iaload, 1, 0, 0), (16, .iadd, 1, 0, 0),
  (17, .iaload, 1, 0, 0), (18, .aload_n 0, 1, 0, 0), (19, .getfield 16, 3, 11, 7), (22, .iconst 4, 1, 4, 0), (23, .iload_n 2, 1, 2, 0), (24, .imul, 1, 0, 0),
  (25, .iconst 1, 1, 1, 0), (26, .iadd, 1, 0, 0), (27, .iaload, 1, 0, 0), (28, .if_icmp .lt 7, 3, 35, 0), (31, .iconst 1, 1, 1, 0), (32, .goto 4, 3, 36, 0),
  (35, .iconst 0, 1, 0, 0), (36, .ireturn, 1, 0, 0)]
def gc_122 : List gc_O := [
  (0, .iconst 0, 1, 0, 0), (1, .istore_n 2, 1, 2, 0), (2, .iconst 0, 1, 0, 0), (3, .istore_n 3, 1, 3, 0), (4, .iload_n 3, 1, 3, 0), (5, .aload_n 0, 1, 0, 0),
  (6, .getfield 113, 3, 11, 4), (9, .if_icmp .ge 28, 3, 37, 0), (12, .iload_n 2, 1, 2, 0), (13, .aload_n 0, 1, 0, 0), (14, .iload_n 1, 1, 1, 0), (15, .iload_n 3, 1, 3, 0),
  (16, .invokevirtual 121, 3, 121, 2), (19, .ifCond .eq 9, 3, 28, 0), (22, .iconst 1, 1, 1, 0), (23, .iload_n 3, 1, 3, 0), (24, .ishl, 1, 0, 0), (25, .goto 4, 3, 29, 0),
  (28, .iconst 0, 1, 0, 0), (29, .ior, 1, 0, 0), (30, .istore_n 2, 1, 2, 0), (31, .iinc 3 1, 3, 1, 0), (34, .goto (-30), 3, 4, 0), (37, .iload_n 2, 1, 2, 0),
  (38, .ireturn, 1, 0, 0)]
def gc_123 : List gc_O := [
  (0, .aload_n 0, 1, 0, 0), (1, .iload_n 1, 1, 1, 0), (2, .invokevirtual 125, 3, 118, 1), (5, .ifCond .ne 5, 3, 10, 0), (8, .iconst (-1), 1, 1, 1), (9, .ireturn, 1, 0, 0),
  (10, .iload_n 2, 1, 2, 0), (11, .i2l, 1, 0, 0), (12, .lconst 0, 1, 0, 0), (13, .ldc2_w 128, 3, 3, 0), (16, .invokestatic 71, 3, 107, 3), (19, .ifCond .eq 14, 3, 33, 0),
  (22, .aload_n 0, 1, 0, 0), (23, .getfield 16, 3, 11, 7), (26, .iconst 4, 1, 4, 0), (27, .iload_n 1, 1, 1, 0), (28, .imul, 1, 0, 0), (29, .iload_n 2, 1, 2, 0),
  (30, .iadd, 1, 0, 0), (31, .iaload, 1, 0, 0), (32, .ireturn, 1, 0, 0), (33, .iload_n 2, 1, 2, 0), (34, .iconst 4, 1, 4, 0), (35, .if_icmp .ne 20, 3, 55, 0),
  (38, .aload_n 0, 1, 0, 0), (39, .iconst 0, 1, 0, 0), (40, .iload_n 1, 1, 1, 0), (41, .invokevirtual 121, 3, 121, 2), (44, .ifCond .eq 7, 3, 51, 0), (47, .iconst 1, 1, 1, 0),
  (48, .goto 9, 3, 57, 0), (51, .iconst 0, 1, 0, 0), (52, .goto 5, 3, 57, 0), (55, .bipush (-2), 2, 2, 1), (57, .ireturn, 1, 0, 0)]
def gc_124 : List gc_O := [
  (0, .aload_n 0, 1, 0, 0), (1, .getfield 28, 3, 11, 13), (4, .bipush 11, 2, 11, 0), (6, .iaload, 1, 0, 0), (7, .ireturn, 1, 0, 0)]
def gc_125 : List gc_O := [
  (0, .bipush 13, 2, 13, 0), (2, .iload_n 1, 1, 1, 0), (3, .imul, 1, 0, 0), (4, .istore 4, 2, 4, 0), (6, .iconst 0, 1, 0, 0), (7, .istore 5, 2, 5, 0),
  (9, .iload 5, 2, 5, 0), (11, .bipush 10, 2, 10, 0), (13, .if_icmp .ge 17, 3, 30, 0), (16, .aload_n 0, 1, 0, 0), (17, .getfield 34, 3, 11, 18), (20, .iload 5, 2, 5, 0),
  (22, .iconst 0, 1, 0, 0), (23, .iastore, 1, 0, 0), (24, .iinc 5 1, 3, 1, 0), (27, .goto (-18), 3, 9, 0), (30, .iconst 0, 1, 0, 0), (31, .istore 5, 2, 5, 0),
  (33, .iload 5, 2, 5, 0), (35, .bipush 10, 2, 10, 0), (37, .if_icmp .ge 60, 3, 97, 0), (40, .iload 5, 2, 5, 0), (42, .iload_n 2, 1, 2, 0), (43, .iadd, 1, 0, 0),
  (44, .istore 6, 2, 6, 0), (46, .iload 6, 2, 6, 0), (48, .i2l, 1, 0, 0), (49, .lconst 0, 1, 0, 0), (50, .ldc2_w 119, 3, 9, 0), (53, .invokestatic 71, 3, 107, 3),
  (56, .ifCond .eq 35, 3, 91, 0), (59, .aload_n 0, 1, 0, 0), (60, .getfield 28, 3, 11, 13), (63, .iload 4, 2, 4, 0), (65, .iload 5, 2, 5, 0), (67, .iadd, 1, 0, 0),
  (68, .iaload, 1, 0, 0), (69, .ifCond .le 22, 3, 91, 0), (72, .aload_n 0, 1, 0, 0), (73, .getfield 34, 3, 11, 18), (76, .iload 6, 2, 6, 0), (78, .aload_n 0, 1, 0, 0),
  (79, .getfield 28, 3, 11, 13), (82, .iload 4, 2, 4, 0), (84, .iload 5, 2, 5, 0), (86, .iadd, 1, 0, 0), (87, .iaload, 1, 0, 0), (88, .iconst 1, 1, 1, 0),
  (89, .isub, 1, 0, 0), (90, .iastore, 1, 0, 0), (91, .iinc 5 1, 3, 1, 0), (94, .goto (-61), 3, 33, 0), (97, .iconst 0, 1, 0, 0), (98, .istore 5, 2, 5, 0),
  (100, .iload 5, 2, 5, 0), (102, .bipush 10, 2, 10, 0), (104, .if_icmp .ge 67, 3, 171, 0), (107, .aload_n 0, 1, 0, 0), (108, .getfield 34, 3, 11, 18), (111, .iload 5, 2, 5, 0),
  (113, .iaload, 1, 0, 0), (114, .iload 5, 2, 5, 0), (116, .iload_n 3, 1, 3, 0), (117, .if_icmp .ne 10, 3, 127, 0), (120, .aload_n 0, 1, 0, 0), (121, .getfield 65, 3, 11, 1),
  (124, .goto 4, 3, 128, 0), (127, .iconst 0, 1, 0, 0), (128, .iadd, 1, 0, 0), (129, .istore 6, 2, 6, 0), (131, .aload_n 0, 1, 0, 0), (132, .getfield 28, 3, 11, 13),
  (135, .iload 4, 2, 4, 0), (137, .iload 5, 2, 5, 0), (139, .iadd, 1, 0, 0), (140, .aload_n 0, 1, 0, 0), (141, .getfield 28, 3, 11, 13), (144, .iload 4, 2, 4, 0),
  (146, .bipush 10, 2, 10, 0), (148, .iadd, 1, 0, 0), (149, .iaload, 1, 0, 0), (150, .iload 5, 2, 5, 0), (152, .invokestatic 130, 3, 108, 2), (155, .ifCond .eq 7, 3, 162, 0),
  (158, .iconst 0, 1, 0, 0), (159, .goto 5, 3, 164, 0), (162, .iload 6, 2, 6, 0), (164, .iastore, 1, 0, 0), (165, .iinc 5 1, 3, 1, 0), (168, .goto (-68), 3, 100, 0),
  (171, .return_, 1, 0, 0)]
def gc_126 : List gc_O := [
  (0, .aload_n 0, 1, 0, 0), (1, .getfield 16, 3, 11, 7), (4, .iconst 4, 1, 4, 0), (5, .iload_n 1, 1, 1, 0), (6, .imul, 1, 0, 0), (7, .iconst 2, 1, 2, 0),
  (8, .iadd, 1, 0, 0), (9, .iaload, 1, 0, 0), (10, .istore 4, 2, 4, 0), (12, .aload_n 0, 1, 0, 0), (13, .getfield 16, 3, 11, 7), (16, .iconst 4, 1, 4, 0),
  (17, .iload_n 1, 1, 1, 0), (18, .imul, 1, 0, 0), (19, .iconst 3, 1, 3, 0), (20, .iadd, 1, 0, 0), (21, .iaload, 1, 0, 0), (22, .tableswitch 65 0 2 #[26, 37, 49], 26, 0, 0),
  (48, .iload_n 2, 1, 2, 0), (49, .ifCond .eq 8, 3, 57, 0), (52, .iload 4, 2, 4, 0), (54, .goto 4, 3, 58, 0), (57, .iconst 0, 1, 0, 0), (58, .ireturn, 1, 0, 0),
  (59, .iload_n 2, 1, 2, 0), (60, .ifCond .eq 7, 3, 67, 0), (63, .iconst 0, 1, 0, 0), (64, .goto 6, 3, 70, 0), (67, .iload 4, 2, 4, 0), (69, .ineg, 1, 0, 0),
  (70, .ireturn, 1, 0, 0), (71, .iload_n 2, 1, 2, 0), (72, .ifCond .eq 13, 3, 85, 0), (75, .iload_n 3, 1, 3, 0), (76, .iconst 1, 1, 1, 0), (77, .if_icmp .ne 8, 3, 85, 0),
  (80, .iload 4, 2, 4, 0), (82, .goto 4, 3, 86, 0), (85, .iconst 0, 1, 0, 0), (86, .ireturn, 1, 0, 0), (87, .iload_n 2, 1, 2, 0), (88, .ifCond .eq 9, 3, 97, 0),
  (91, .iload 4, 2, 4, 0), (93, .ineg, 1, 0, 0), (94, .goto 4, 3, 98, 0), (97, .iconst 0, 1, 0, 0), (98, .ireturn, 1, 0, 0)]
def gc_127 : List gc_O := [
  (0, .bipush 13, 2, 13, 0), (2, .iload_n 1, 1, 1, 0), (3, .imul, 1, 0, 0), (4, .istore 4, 2, 4, 0), (6, .aload_n 0, 1, 0, 0), (7, .getfield 13, 3, 11, 6),
  (10, .aload_n 0, 1, 0, 0), (11, .getfield 28, 3, 11, 13), (14, .iload 4, 2, 4, 0), (16, .bipush 12, 2, 12, 0), (18, .iadd, 1, 0, 0), (19, .iaload, 1, 0, 0),
  (20, .iaload, 1, 0, 0), (21, .istore 5, 2, 5, 0), (23, .aload_n 0, 1, 0, 0), (24, .iload_n 1, 1, 1, 0), (25, .iload 5, 2, 5, 0), (27, .iload_n 2, 1, 2, 0),
  (28, .ifCond .eq 10, 3, 38, 0), (31, .aload_n 0, 1, 0, 0), (32, .getfield 104, 3, 11, 0), (35, .goto 5, 3, 40, 0), (38, .bipush (-99), 2, 99, 1), (40, .invokevirtual 133, 3, 125, 3),
  (43, .iload_n 2, 1, 2, 0), (44, .ifCond .eq 11, 3, 55, 0), (47, .aload_n 0, 1, 0, 0), (48, .getfield 107, 3, 11, 2), (51, .ineg, 1, 0, 0), (52, .goto 4, 3, 56, 0),
  (55, .iconst 0, 1, 0, 0), (56, .istore 6, 2, 6, 0), (58, .iconst 0, 1, 0, 0), (59, .istore 7, 2, 7, 0), (61, .iload 7, 2, 7, 0), (63, .aload_n 0, 1, 0, 0),
  (64, .getfield 113, 3, 11, 4), (67, .if_icmp .ge 42, 3, 109, 0), (70, .iload 6, 2, 6, 0), (72, .iload_n 3, 1, 3, 0), (73, .iload 7, 2, 7, 0), (75, .invokestatic 130, 3, 108, 2),
  (78, .ifCond .eq 21, 3, 99, 0), (81, .aload_n 0, 1, 0, 0), (82, .iload 7, 2, 7, 0), (84, .aload_n 0, 1, 0, 0), (85, .iload_n 1, 1, 1, 0), (86, .iload 7, 2, 7, 0),
  (88, .invokevirtual 121, 3, 121, 2), (91, .iload 5, 2, 5, 0), (93, .invokevirtual 137, 3, 126, 3), (96, .goto 4, 3, 100, 0), (99, .iconst 0, 1, 0, 0), (100, .iadd, 1, 0, 0),
  (101, .istore 6, 2, 6, 0), (103, .iinc 7 1, 3, 1, 0), (106, .goto (-45), 3, 61, 0), (109, .aload_n 0, 1, 0, 0), (110, .getfield 28, 3, 11, 13), (113, .iload 4, 2, 4, 0),
  (115, .bipush 12, 2, 12, 0), (117, .iadd, 1, 0, 0), (118, .dup2, 1, 0, 0), (119, .iaload, 1, 0, 0), (120, .iconst 1, 1, 1, 0), (121, .iadd, 1, 0, 0),
  (122, .iastore, 1, 0, 0), (123, .aload_n 0, 1, 0, 0), (124, .getfield 28, 3, 11, 13), (127, .iload 4, 2, 4, 0), (129, .bipush 11, 2, 11, 0), (131, .iadd, 1, 0, 0),
  (132, .dup2, 1, 0, 0), (133, .iaload, 1, 0, 0), (134, .iload 6, 2, 6, 0), (136, .iadd, 1, 0, 0), (137, .iastore, 1, 0, 0), (138, .iload 6, 2, 6, 0),
  (140, .ireturn, 1, 0, 0)]
def gc_128 : List gc_O := [
  (0, .iconst 0, 1, 0, 0), (1, .istore_n 1, 1, 1, 0), (2, .iload_n 1, 1, 1, 0), (3, .bipush 8, 2, 8, 0), (5, .if_icmp .ge 21, 3, 26, 0), (8, .aload_n 0, 1, 0, 0),
  (9, .getfield 13, 3, 11, 6), (12, .iload_n 1, 1, 1, 0), (13, .aload_n 0, 1, 0, 0), (14, .getfield 7, 3, 11, 5), (17, .iload_n 1, 1, 1, 0), (18, .iaload, 1, 0, 0),
  (19, .iastore, 1, 0, 0), (20, .iinc 1 1, 3, 1, 0), (23, .goto (-21), 3, 2, 0), (26, .return_, 1, 0, 0)]
def gc_129 : List gc_O := [
  (0, .iconst 0, 1, 0, 0), (1, .istore_n 3, 1, 3, 0), (2, .iload_n 3, 1, 3, 0), (3, .bipush 13, 2, 13, 0), (5, .if_icmp .ge 31, 3, 36, 0), (8, .aload_n 0, 1, 0, 0),
  (9, .getfield 28, 3, 11, 13), (12, .bipush 13, 2, 13, 0), (14, .iload_n 2, 1, 2, 0), (15, .imul, 1, 0, 0), (16, .iload_n 3, 1, 3, 0), (17, .iadd, 1, 0, 0),
  (18, .aload_n 0, 1, 0, 0), (19, .getfield 28, 3, 11, 13), (22, .bipush 13, 2, 13, 0), (24, .iload_n 1, 1, 1, 0), (25, .imul, 1, 0, 0), (26, .iload_n 3, 1, 3, 0),
  (27, .iadd, 1, 0, 0), (28, .iaload, 1, 0, 0), (29, .iastore, 1, 0, 0), (30, .iinc 3 1, 3, 1, 0), (33, .goto (-31), 3, 2, 0), (36, .return_, 1, 0, 0)]
def gc_130 : List gc_O := [
  (0, .iconst 0, 1, 0, 0), (1, .istore_n 1, 1, 1, 0), (2, .iload_n 1, 1, 1, 0), (3, .bipush 13, 2, 13, 0), (5, .if_icmp .ge 29, 3, 34, 0), (8, .aload_n 0, 1, 0, 0),
  (9, .getfield 37, 3, 11, 21), (12, .bipush 13, 2, 13, 0), (14, .aload_n 0, 1, 0, 0), (15, .getfield 141, 3, 11, 20), (18, .imul, 1, 0, 0), (19, .iload_n 1, 1, 1, 0),
  (20, .iadd, 1, 0, 0), (21, .aload_n 0, 1, 0, 0), (22, .getfield 28, 3, 11, 13), (25, .iload_n 1, 1, 1, 0), (26, .iaload, 1, 0, 0), (27, .iastore, 1, 0, 0),
  (28, .iinc 1 1, 3, 1, 0), (31, .goto (-29), 3, 2, 0), (34, .aload_n 0, 1, 0, 0), (35, .aload_n 0, 1, 0, 0), (36, .getfield 141, 3, 11, 20), (39, .iconst 1, 1, 1, 0),
  (40, .iadd, 1, 0, 0), (41, .bipush 14, 2, 14, 0), (43, .irem, 1, 0, 0), (44, .putfield 141, 3, 11, 20), (47, .aload_n 0, 1, 0, 0), (48, .aload_n 0, 1, 0, 0),
  (49, .getfield 116, 3, 11, 19), (52, .bipush 14, 2, 14, 0), (54, .if_icmp .ge 12, 3, 66, 0), (57, .aload_n 0, 1, 0, 0), (58, .getfield 116, 3, 11, 19), (61, .iconst 1, 1, 1, 0),
  (62, .iadd, 1, 0, 0), (63, .goto 5, 3, 68, 0), (66, .bipush 14, 2, 14, 0), (68, .putfield 116, 3, 11, 19), (71, .return_, 1, 0, 0)]
def gc_131 : List gc_O := [
  (0, .aload_n 0, 1, 0, 0), (1, .getfield 28, 3, 11, 13), (4, .bipush 12, 2, 12, 0), (6, .iaload, 1, 0, 0), (7, .aload_n 0, 1, 0, 0), (8, .getfield 110, 3, 11, 3),
  (11, .if_icmp .ne 6, 3, 17, 0), (14, .bipush (-3), 2, 3, 1), (16, .ireturn, 1, 0, 0), (17, .aload_n 0, 1, 0, 0), (18, .invokevirtual 144, 3, 130, 0), (21, .aload_n 0, 1, 0, 0),
  (22, .invokevirtual 147, 3, 128, 0), (25, .aload_n 0, 1, 0, 0), (26, .iconst 0, 1, 0, 0), (27, .iload_n 1, 1, 1, 0), (28, .bipush 63, 2, 63, 0), (30, .invokevirtual 150, 3, 127, 3),
  (33, .pop, 1, 0, 0), (34, .aload_n 0, 1, 0, 0), (35, .iconst 0, 1, 0, 0), (36, .invokevirtual 153, 3, 122, 1), (39, .ireturn, 1, 0, 0)]
def gc_132 : List gc_O := [
  (0, .iload_n 1, 1, 1, 0), (1, .i2l, 1, 0, 0), (2, .lconst 0, 1, 0, 0), (3, .ldc2_w 119, 3, 9, 0), (6, .invokestatic 71, 3, 107, 3), (9, .ifCond .ne 6, 3, 15, 0),
  (12, .bipush (-2), 2, 2, 1), (14, .ireturn, 1, 0, 0), (15, .aload_n 0, 1, 0, 0), (16, .getfield 28, 3, 11, 13), (19, .bipush 12, 2, 12, 0), (21, .iaload, 1, 0, 0),
  (22, .aload_n 0, 1, 0, 0), (23, .getfield 110, 3, 11, 3), (26, .if_icmp .ne 6, 3, 32, 0), (29, .bipush (-3), 2, 3, 1), (31, .ireturn, 1, 0, 0), (32, .aload_n 0, 1, 0, 0),
  (33, .invokevirtual 144, 3, 130, 0), (36, .aload_n 0, 1, 0, 0), (37, .getfield 28, 3, 11, 13), (40, .bipush 10, 2, 10, 0), (42, .dup2, 1, 0, 0), (43, .iaload, 1, 0, 0),
  (44, .iconst 1, 1, 1, 0), (45, .iload_n 1, 1, 1, 0), (46, .ishl, 1, 0, 0), (47, .ixor, 1, 0, 0), (48, .iastore, 1, 0, 0), (49, .aload_n 0, 1, 0, 0),
  (50, .getfield 28, 3, 11, 13), (53, .bipush 10, 2, 10, 0), (55, .iaload, 1, 0, 0), (56, .iload_n 1, 1, 1, 0), (57, .ishr, 1, 0, 0), (58, .iconst 1, 1, 1, 0),
  (59, .iand, 1, 0, 0), (60, .ireturn, 1, 0, 0)]
def gc_133 : List gc_O := [
  (0, .aload_n 0, 1, 0, 0), (1, .getfield 116, 3, 11, 19), (4, .ifCond .ne 6, 3, 10, 0), (7, .bipush (-3), 2, 3, 1), (9, .ireturn, 1, 0, 0), (10, .aload_n 0, 1, 0, 0),
  (11, .dup, 1, 0, 0), (12, .getfield 116, 3, 11, 19), (15, .iconst 1, 1, 1, 0), (16, .isub, 1, 0, 0), (17, .putfield 116, 3, 11, 19), (20, .aload_n 0, 1, 0, 0),
  (21, .aload_n 0, 1, 0, 0), (22, .getfield 141, 3, 11, 20), (25, .bipush 13, 2, 13, 0), (27, .iadd, 1, 0, 0), (28, .bipush 14, 2, 14, 0), (30, .irem, 1, 0, 0),
  (31, .putfield 141, 3, 11, 20), (34, .iconst 0, 1, 0, 0), (35, .istore_n 1, 1, 1, 0), (36, .iload_n 1, 1, 1, 0), (37, .bipush 13, 2, 13, 0), (39, .if_icmp .ge 29, 3, 68, 0),
  (42, .aload_n 0, 1, 0, 0), (43, .getfield 28, 3, 11, 13), (46, .iload_n 1, 1, 1, 0), (47, .aload_n 0, 1, 0, 0), (48, .getfield 37, 3, 11, 21), (51, .bipush 13, 2, 13, 0),
  (53, .aload_n 0, 1, 0, 0), (54, .getfield 141, 3, 11, 20), (57, .imul, 1, 0, 0), (58, .iload_n 1, 1, 1, 0), (59, .iadd, 1, 0, 0), (60, .iaload, 1, 0, 0),
  (61, .iastore, 1, 0, 0), (62, .iinc 1 1, 3, 1, 0), (65, .goto (-29), 3, 36, 0), (68, .aload_n 0, 1, 0, 0), (69, .getfield 116, 3, 11, 19), (72, .ireturn, 1, 0, 0)]
def gc_134 : List gc_O := [
  (0, .aload_n 0, 1, 0, 0), (1, .iconst 0, 1, 0, 0), (2, .iconst 1, 1, 1, 0), (3, .invokevirtual 157, 3, 129, 2), (6, .aload_n 0, 1, 0, 0), (7, .iconst 0, 1, 0, 0),
  (8, .putfield 161, 3, 11, 22), (11, .iconst 0, 1, 0, 0), (12, .istore_n 3, 1, 3, 0), (13, .aload_n 0, 1, 0, 0), (14, .getfield 28, 3, 11, 13), (17, .bipush 25, 2, 25, 0),
  (19, .iaload, 1, 0, 0), (20, .aload_n 0, 1, 0, 0), (21, .getfield 110, 3, 11, 3), (24, .if_icmp .ge 40, 3, 64, 0), (27, .iload_n 3, 1, 3, 0), (28, .aload_n 0, 1, 0, 0),
  (29, .iconst 1, 1, 1, 0), (30, .iload_n 1, 1, 1, 0), (31, .aload_n 0, 1, 0, 0), (32, .getfield 28, 3, 11, 13), (35, .bipush 25, 2, 25, 0), (37, .iaload, 1, 0, 0),
  (38, .invokestatic 130, 3, 108, 2), (41, .iload_n 2, 1, 2, 0), (42, .invokevirtual 150, 3, 127, 3), (45, .iadd, 1, 0, 0), (46, .istore_n 3, 1, 3, 0), (47, .aload_n 0, 1, 0, 0),
  (48, .dup, 1, 0, 0), (49, .getfield 161, 3, 11, 22), (52, .aload_n 0, 1, 0, 0), (53, .iconst 1, 1, 1, 0), (54, .invokevirtual 153, 3, 122, 1), (57, .ior, 1, 0, 0),
  (58, .putfield 161, 3, 11, 22), (61, .goto (-48), 3, 13, 0), (64, .iload_n 3, 1, 3, 0), (65, .ireturn, 1, 0, 0)]
def gc_135 : List gc_O := [
  (0, .iconst 1, 1, 1, 0), (1, .aload_n 0, 1, 0, 0), (2, .getfield 110, 3, 11, 3), (5, .ishl, 1, 0, 0), (6, .iconst 1, 1, 1, 0), (7, .isub, 1, 0, 0),
  (8, .iconst 1, 1, 1, 0), (9, .aload_n 0, 1, 0, 0), (10, .getfield 28, 3, 11, 13), (13, .bipush 12, 2, 12, 0), (15, .iaload, 1, 0, 0), (16, .ishl, 1, 0, 0),
  (17, .iconst 1, 1, 1, 0), (18, .isub, 1, 0, 0), (19, .iconst (-1), 1, 1, 1), (20, .ixor, 1, 0, 0), (21, .iand, 1, 0, 0), (22, .ireturn, 1, 0, 0)]
def gc_136 : List gc_O := [
  (0, .iload_n 1, 1, 1, 0), (1, .i2l, 1, 0, 0), (2, .lconst 0, 1, 0, 0), (3, .ldc2_w 69, 3, 255, 0), (6, .invokestatic 71, 3, 107, 3), (9, .ifCond .ne 6, 3, 15, 0),
  (12, .ldc 164, 2, 1000002, 1), (14, .ireturn, 1, 0, 0), (15, .aload_n 0, 1, 0, 0), (16, .invokevirtual 147, 3, 128, 0), (19, .aload_n 0, 1, 0, 0), (20, .iload_n 1, 1, 1, 0),
  (21, .bipush 63, 2, 63, 0), (23, .invokevirtual 165, 3, 134, 2), (26, .ireturn, 1, 0, 0)]
def gc_137 : List gc_O := [
  (0, .aload_n 0, 1, 0, 0), (1, .invokevirtual 147, 3, 128, 0), (4, .aload_n 0, 1, 0, 0), (5, .iconst 0, 1, 0, 0), (6, .putfield 168, 3, 11, 23), (9, .aload_n 0, 1, 0, 0),
  (10, .iconst 0, 1, 0, 0), (11, .iload_n 1, 1, 1, 0), (12, .invokevirtual 165, 3, 134, 2), (15, .istore_n 2, 1, 2, 0), (16, .iconst 1, 1, 1, 0), (17, .istore_n 3, 1, 3, 0),
  (18, .iload_n 3, 1, 3, 0), (19, .iconst 1, 1, 1, 0), (20, .aload_n 0, 1, 0, 0), (21, .getfield 110, 3, 11, 3), (24, .ishl, 1, 0, 0), (25, .if_icmp .ge 90, 3, 115, 0),
  (28, .iload_n 3, 1, 3, 0), (29, .aload_n 0, 1, 0, 0), (30, .invokevirtual 171, 3, 135, 0), (33, .iconst (-1), 1, 1, 1), (34, .ixor, 1, 0, 0), (35, .iand, 1, 0, 0),
  (36, .ifCond .ne 73, 3, 109, 0), (39, .aload_n 0, 1, 0, 0), (40, .iload_n 3, 1, 3, 0), (41, .iload_n 1, 1, 1, 0), (42, .invokevirtual 165, 3, 134, 2), (45, .istore 4, 2, 4, 0),
  (47, .iload 4, 2, 4, 0), (49, .iload_n 2, 1, 2, 0), (50, .if_icmp .gt 23, 3, 73, 0), (53, .iload 4, 2, 4, 0), (55, .iload_n 2, 1, 2, 0), (56, .if_icmp .ne 21, 3, 77, 0),
  (59, .iload_n 3, 1, 3, 0), (60, .invokestatic 174, 3, 109, 1), (63, .aload_n 0, 1, 0, 0), (64, .getfield 168, 3, 11, 23), (67, .invokestatic 174, 3, 109, 1), (70, .if_icmp .ge 7, 3, 77, 0),
  (73, .iconst 1, 1, 1, 0), (74, .goto 4, 3, 78, 0), (77, .iconst 0, 1, 0, 0), (78, .istore 5, 2, 5, 0), (80, .aload_n 0, 1, 0, 0), (81, .iload 5, 2, 5, 0),
  (83, .ifCond .eq 7, 3, 90, 0), (86, .iload_n 3, 1, 3, 0), (87, .goto 7, 3, 94, 0), (90, .aload_n 0, 1, 0, 0), (91, .getfield 168, 3, 11, 23), (94, .putfield 168, 3, 11, 23),
  (97, .iload 5, 2, 5, 0), (99, .ifCond .eq 8, 3, 107, 0), (102, .iload 4, 2, 4, 0), (104, .goto 4, 3, 108, 0), (107, .iload_n 2, 1, 2, 0), (108, .istore_n 2, 1, 2, 0),
  (109, .iinc 3 1, 3, 1, 0), (112, .goto (-94), 3, 18, 0), (115, .iload_n 2, 1, 2, 0), (116, .ireturn, 1, 0, 0)]
def gc_138 : List gc_O := [
  (0, .aload_n 0, 1, 0, 0), (1, .bipush 63, 2, 63, 0), (3, .invokevirtual 177, 3, 137, 1), (6, .istore_n 2, 1, 2, 0), (7, .iload_n 1, 1, 1, 0), (8, .ifCond .eq 7, 3, 15, 0),
  (11, .iload_n 2, 1, 2, 0), (12, .goto 7, 3, 19, 0), (15, .aload_n 0, 1, 0, 0), (16, .getfield 168, 3, 11, 23), (19, .ireturn, 1, 0, 0)]
def gc_139 : List gc_O := [
  (0, .aload_n 0, 1, 0, 0), (1, .getfield 28, 3, 11, 13), (4, .bipush 12, 2, 12, 0), (6, .iaload, 1, 0, 0), (7, .aload_n 0, 1, 0, 0), (8, .getfield 110, 3, 11, 3),
  (11, .if_icmp .ne 6, 3, 17, 0), (14, .bipush (-99), 2, 99, 1), (16, .ireturn, 1, 0, 0), (17, .aload_n 0, 1, 0, 0), (18, .bipush 63, 2, 63, 0), (20, .invokevirtual 177, 3, 137, 1),
  (23, .istore_n 1, 1, 1, 0), (24, .bipush (-99), 2, 99, 1), (26, .istore_n 2, 1, 2, 0), (27, .iconst 0, 1, 0, 0), (28, .istore_n 3, 1, 3, 0), (29, .iload_n 3, 1, 3, 0),
  (30, .bipush 10, 2, 10, 0), (32, .if_icmp .ge 68, 3, 100, 0), (35, .aload_n 0, 1, 0, 0), (36, .getfield 28, 3, 11, 13), (39, .bipush 10, 2, 10, 0), (41, .dup2, 1, 0, 0),
  (42, .iaload, 1, 0, 0), (43, .iconst 1, 1, 1, 0), (44, .iload_n 3, 1, 3, 0), (45, .ishl, 1, 0, 0), (46, .ixor, 1, 0, 0), (47, .iastore, 1, 0, 0),
  (48, .aload_n 0, 1, 0, 0), (49, .bipush 63, 2, 63, 0), (51, .invokevirtual 177, 3, 137, 1), (54, .istore 4, 2, 4, 0), (56, .aload_n 0, 1, 0, 0), (57, .getfield 28, 3, 11, 13),
  (60, .bipush 10, 2, 10, 0), (62, .dup2, 1, 0, 0), (63, .iaload, 1, 0, 0), (64, .iconst 1, 1, 1, 0), (65, .iload_n 3, 1, 3, 0), (66, .ishl, 1, 0, 0),
  (67, .ixor, 1, 0, 0), (68, .iastore, 1, 0, 0), (69, .iload 4, 2, 4, 0), (71, .iload_n 1, 1, 1, 0), (72, .if_icmp .le 7, 3, 79, 0), (75, .iload_n 3, 1, 3, 0),
  (76, .goto 4, 3, 80, 0), (79, .iload_n 2, 1, 2, 0), (80, .istore_n 2, 1, 2, 0), (81, .iload 4, 2, 4, 0), (83, .iload_n 1, 1, 1, 0), (84, .if_icmp .le 8, 3, 92, 0),
  (87, .iload 4, 2, 4, 0), (89, .goto 4, 3, 93, 0), (92, .iload_n 1, 1, 1, 0), (93, .istore_n 1, 1, 1, 0), (94, .iinc 3 1, 3, 1, 0), (97, .goto (-68), 3, 29, 0),
  (100, .iload_n 2, 1, 2, 0), (101, .ireturn, 1, 0, 0)]
def gc_140 : List gc_O := [
  (0, .iconst 1, 1, 1, 0), (1, .istore_n 1, 1, 1, 0), (2, .iconst 2, 1, 2, 0), (3, .istore_n 2, 1, 2, 0), (4, .iload_n 2, 1, 2, 0), (5, .iload_n 0, 1, 0, 0),
  (6, .if_icmp .gt 13, 3, 19, 0), (9, .iload_n 1, 1, 1, 0), (10, .iload_n 2, 1, 2, 0), (11, .imul, 1, 0, 0), (12, .istore_n 1, 1, 1, 0), (13, .iinc 2 1, 3, 1, 0),
  (16, .goto (-12), 3, 4, 0), (19, .iload_n 1, 1, 1, 0), (20, .ireturn, 1, 0, 0)]
def gc_141 : List gc_O := [
  (0, .lload_n 0, 1, 0, 0), (1, .lconst 0, 1, 0, 0), (2, .lcmp, 1, 0, 0), (3, .ifCond .ge 8, 3, 11, 0), (6, .lload_n 0, 1, 0, 0), (7, .lneg, 1, 0, 0),
  (8, .goto 4, 3, 12, 0), (11, .lload_n 0, 1, 0, 0), (12, .lstore 4, 2, 4, 0), (14, .lload_n 2, 1, 2, 0), (15, .lstore 6, 2, 6, 0), (17, .lload 6, 2, 6, 0),
  (19, .lconst 0, 1, 0, 0), (20, .lcmp, 1, 0, 0), (21, .ifCond .eq 21, 3, 42, 0), (24, .lload 4, 2, 4, 0), (26, .lload 6, 2, 6, 0), (28, .lrem, 1, 0, 0),
  (29, .lstore 8, 2, 8, 0), (31, .lload 6, 2, 6, 0), (33, .lstore 4, 2, 4, 0), (35, .lload 8, 2, 8, 0), (37, .lstore 6, 2, 6, 0), (39, .goto (-22), 3, 17, 0),
  (42, .lload 4, 2, 4, 0), (44, .lreturn, 1, 0, 0)]
def gc_142 : List gc_O := [
  (0, .aload_n 0, 1, 0, 0), (1, .iload_n 1, 1, 1, 0), (2, .invokevirtual 125, 3, 118, 1), (5, .ifCond .ne 6, 3, 11, 0), (8, .ldc 180, 2, 1000001, 1), (10, .ireturn, 1, 0, 0),
  (11, .iconst 0, 1, 0, 0), (12, .istore_n 3, 1, 3, 0), (13, .iload_n 3, 1, 3, 0), (14, .iconst 1, 1, 1, 0), (15, .aload_n 0, 1, 0, 0), (16, .getfield 113, 3, 11, 4),
  (19, .ishl, 1, 0, 0), (20, .if_icmp .ge 20, 3, 40, 0), (23, .aload_n 0, 1, 0, 0), (24, .getfield 40, 3, 11, 24), (27, .iload_n 3, 1, 3, 0), (28, .aload_n 0, 1, 0, 0),
  (29, .iload_n 3, 1, 3, 0), (30, .invokevirtual 177, 3, 137, 1), (33, .iastore, 1, 0, 0), (34, .iinc 3 1, 3, 1, 0), (37, .goto (-24), 3, 13, 0), (40, .lconst 0, 1, 0, 0),
  (41, .lstore_n 3, 1, 3, 0), (42, .iconst 0, 1, 0, 0), (43, .istore 5, 2, 5, 0), (45, .iload 5, 2, 5, 0), (47, .iconst 1, 1, 1, 0), (48, .aload_n 0, 1, 0, 0),
  (49, .getfield 113, 3, 11, 4), (52, .ishl, 1, 0, 0), (53, .if_icmp .ge 70, 3, 123, 0), (56, .iload 5, 2, 5, 0), (58, .iload_n 1, 1, 1, 0), (59, .invokestatic 130, 3, 108, 2),
  (62, .ifCond .ne 55, 3, 117, 0), (65, .iload 5, 2, 5, 0), (67, .invokestatic 174, 3, 109, 1), (70, .invokestatic 181, 3, 140, 1), (73, .aload_n 0, 1, 0, 0), (74, .getfield 113, 3, 11, 4),
  (77, .iconst 1, 1, 1, 0), (78, .isub, 1, 0, 0), (79, .iload 5, 2, 5, 0), (81, .invokestatic 174, 3, 109, 1), (84, .isub, 1, 0, 0), (85, .invokestatic 181, 3, 140, 1),
  (88, .imul, 1, 0, 0), (89, .istore 6, 2, 6, 0), (91, .lload_n 3, 1, 3, 0), (92, .iload 6, 2, 6, 0), (94, .aload_n 0, 1, 0, 0), (95, .getfield 40, 3, 11, 24),
  (98, .iload 5, 2, 5, 0), (100, .iconst 1, 1, 1, 0), (101, .iload_n 1, 1, 1, 0), (102, .ishl, 1, 0, 0), (103, .ior, 1, 0, 0), (104, .iaload, 1, 0, 0),
  (105, .aload_n 0, 1, 0, 0), (106, .getfield 40, 3, 11, 24), (109, .iload 5, 2, 5, 0), (111, .iaload, 1, 0, 0), (112, .isub, 1, 0, 0), (113, .imul, 1, 0, 0),
  (114, .i2l, 1, 0, 0), (115, .ladd, 1, 0, 0), (116, .lstore_n 3, 1, 3, 0), (117, .iinc 5 1, 3, 1, 0), (120, .goto (-75), 3, 45, 0), (123, .lload_n 3, 1, 3, 0),
  (124, .aload_n 0, 1, 0, 0), (125, .getfield 113, 3, 11, 4), (128, .invokestatic 181, 3, 140, 1), (131, .i2l, 1, 0, 0), (132, .invokestatic 184, 3, 141, 2), (135, .lstore 5, 2, 5, 0),
  (137, .iload_n 2, 1, 2, 0), (138, .ifCond .eq 10, 3, 148, 0), (141, .lload_n 3, 1, 3, 0), (142, .lload 5, 2, 5, 0), (144, .ldiv, 1, 0, 0), (145, .goto 14, 3, 159, 0),
  (148, .aload_n 0, 1, 0, 0), (149, .getfield 113, 3, 11, 4), (152, .invokestatic 181, 3, 140, 1), (155, .i2l, 1, 0, 0), (156, .lload 5, 2, 5, 0), (158, .ldiv, 1, 0, 0),
  (159, .l2i, 1, 0, 0), (160, .ireturn, 1, 0, 0)]
def gc_143 : List gc_O := [
  (0, .iconst 1, 1, 1, 0), (1, .istore_n 1, 1, 1, 0), (2, .iconst 0, 1, 0, 0), (3, .istore_n 2, 1, 2, 0), (4, .iload_n 2, 1, 2, 0), (5, .iload_n 0, 1, 0, 0),
  (6, .if_icmp .ge 14, 3, 20, 0), (9, .iload_n 1, 1, 1, 0), (10, .bipush 10, 2, 10, 0), (12, .imul, 1, 0, 0), (13, .istore_n 1, 1, 1, 0), (14, .iinc 2 1, 3, 1, 0),
  (17, .goto (-13), 3, 4, 0), (20, .iload_n 1, 1, 1, 0), (21, .ireturn, 1, 0, 0)]
def gc_144 : List gc_O := [
  (0, .iload_n 1, 1, 1, 0), (1, .i2l, 1, 0, 0), (2, .lconst 1, 1, 1, 0), (3, .ldc2_w 188, 3, 8, 0), (6, .invokestatic 71, 3, 107, 3), (9, .ifCond .eq 19, 3, 28, 0),
  (12, .iload_n 2, 1, 2, 0), (13, .i2l, 1, 0, 0), (14, .lconst 0, 1, 0, 0), (15, .iload_n 1, 1, 1, 0), (16, .invokestatic 190, 3, 143, 1), (19, .iconst 1, 1, 1, 0),
  (20, .isub, 1, 0, 0), (21, .i2l, 1, 0, 0), (22, .invokestatic 71, 3, 107, 3), (25, .ifCond .ne 6, 3, 31, 0), (28, .bipush (-2), 2, 2, 1), (30, .ireturn, 1, 0, 0),
  (31, .aload_n 0, 1, 0, 0), (32, .invokevirtual 147, 3, 128, 0), (35, .aload_n 0, 1, 0, 0), (36, .iconst 0, 1, 0, 0), (37, .iconst 1, 1, 1, 0), (38, .invokevirtual 157, 3, 129, 2),
  (41, .iconst 0, 1, 0, 0), (42, .istore_n 3, 1, 3, 0), (43, .iload_n 3, 1, 3, 0), (44, .iload_n 1, 1, 1, 0), (45, .if_icmp .ge 67, 3, 112, 0), (48, .iload_n 2, 1, 2, 0),
  (49, .iload_n 1, 1, 1, 0), (50, .iconst 1, 1, 1, 0), (51, .isub, 1, 0, 0), (52, .iload_n 3, 1, 3, 0), (53, .isub, 1, 0, 0), (54, .invokestatic 190, 3, 143, 1),
  (57, .idiv, 1, 0, 0), (58, .bipush 10, 2, 10, 0), (60, .irem, 1, 0, 0), (61, .istore 4, 2, 4, 0), (63, .iload 4, 2, 4, 0), (65, .iconst 1, 1, 1, 0),
  (66, .if_icmp .gt 38, 3, 104, 0), (69, .aload_n 0, 1, 0, 0), (70, .getfield 28, 3, 11, 13), (73, .bipush 25, 2, 25, 0), (75, .iaload, 1, 0, 0), (76, .aload_n 0, 1, 0, 0),
  (77, .getfield 110, 3, 11, 3), (80, .if_icmp .eq 24, 3, 104, 0), (83, .aload_n 0, 1, 0, 0), (84, .iconst 1, 1, 1, 0), (85, .iload 4, 2, 4, 0), (87, .iconst 1, 1, 1, 0),
  (88, .if_icmp .ne 7, 3, 95, 0), (91, .iconst 1, 1, 1, 0), (92, .goto 4, 3, 96, 0), (95, .iconst 0, 1, 0, 0), (96, .bipush 63, 2, 63, 0), (98, .invokevirtual 150, 3, 127, 3),
  (101, .ifCond .ge 5, 3, 106, 0), (104, .iload_n 3, 1, 3, 0), (105, .ireturn, 1, 0, 0), (106, .iinc 3 1, 3, 1, 0), (109, .goto (-66), 3, 43, 0), (112, .bipush (-99), 2, 99, 1),
  (114, .ireturn, 1, 0, 0)]
def gc_145 : List gc_O := [
  (0, .iload_n 1, 1, 1, 0), (1, .i2l, 1, 0, 0), (2, .lconst 0, 1, 0, 0), (3, .ldc2_w 69, 3, 255, 0), (6, .invokestatic 71, 3, 107, 3), (9, .ifCond .ne 6, 3, 15, 0),
  (12, .bipush (-2), 2, 2, 1), (14, .ireturn, 1, 0, 0), (15, .aload_n 0, 1, 0, 0), (16, .invokevirtual 147, 3, 128, 0), (19, .aload_n 0, 1, 0, 0), (20, .iload_n 1, 1, 1, 0),
  (21, .bipush 63, 2, 63, 0), (23, .invokevirtual 165, 3, 134, 2), (26, .pop, 1, 0, 0), (27, .aload_n 0, 1, 0, 0), (28, .getfield 161, 3, 11, 22), (31, .ireturn, 1, 0, 0)]
def gc_146 : List gc_O := [
  (0, .iload_n 1, 1, 1, 0), (1, .i2l, 1, 0, 0), (2, .lconst 0, 1, 0, 0), (3, .iconst 1, 1, 1, 0), (4, .aload_n 0, 1, 0, 0), (5, .getfield 113, 3, 11, 4),
  (8, .ishl, 1, 0, 0), (9, .iconst 1, 1, 1, 0), (10, .isub, 1, 0, 0), (11, .i2l, 1, 0, 0), (12, .invokestatic 71, 3, 107, 3), (15, .ifCond .ne 6, 3, 21, 0),
  (18, .bipush (-2), 2, 2, 1), (20, .ireturn, 1, 0, 0), (21, .aload_n 0, 1, 0, 0), (22, .invokevirtual 147, 3, 128, 0), (25, .bipush (-99), 2, 99, 1), (27, .istore_n 2, 1, 2, 0),
  (28, .iconst 0, 1, 0, 0), (29, .istore_n 3, 1, 3, 0), (30, .iload_n 3, 1, 3, 0), (31, .iconst 1, 1, 1, 0), (32, .aload_n 0, 1, 0, 0), (33, .getfield 110, 3, 11, 3),
  (36, .ishl, 1, 0, 0), (37, .if_icmp .ge 59, 3, 96, 0), (40, .iload_n 3, 1, 3, 0), (41, .aload_n 0, 1, 0, 0), (42, .invokevirtual 171, 3, 135, 0), (45, .iconst (-1), 1, 1, 1),
  (46, .ixor, 1, 0, 0), (47, .iand, 1, 0, 0), (48, .ifCond .ne 42, 3, 90, 0), (51, .iload_n 2, 1, 2, 0), (52, .bipush (-99), 2, 99, 1), (54, .if_icmp .eq 14, 3, 68, 0),
  (57, .iload_n 3, 1, 3, 0), (58, .invokestatic 174, 3, 109, 1), (61, .iload_n 2, 1, 2, 0), (62, .invokestatic 174, 3, 109, 1), (65, .if_icmp .ge 25, 3, 90, 0), (68, .aload_n 0, 1, 0, 0),
  (69, .iload_n 3, 1, 3, 0), (70, .bipush 63, 2, 63, 0), (72, .invokevirtual 165, 3, 134, 2), (75, .pop, 1, 0, 0), (76, .aload_n 0, 1, 0, 0), (77, .getfield 161, 3, 11, 22),
  (80, .iload_n 1, 1, 1, 0), (81, .if_icmp .ne 7, 3, 88, 0), (84, .iload_n 3, 1, 3, 0), (85, .goto 4, 3, 89, 0), (88, .iload_n 2, 1, 2, 0), (89, .istore_n 2, 1, 2, 0),
  (90, .iinc 3 1, 3, 1, 0), (93, .goto (-63), 3, 30, 0), (96, .iload_n 2, 1, 2, 0), (97, .ireturn, 1, 0, 0)]
def gc_147 : List gc_O := [
  (0, .aload_n 0, 1, 0, 0), (1, .iload_n 1, 1, 1, 0), (2, .invokevirtual 125, 3, 118, 1), (5, .ifCond .ne 5, 3, 10, 0), (8, .iconst (-1), 1, 1, 1), (9, .ireturn, 1, 0, 0),
  (10, .iload_n 2, 1, 2, 0), (11, .i2l, 1, 0, 0), (12, .lconst 0, 1, 0, 0), (13, .ldc2_w 193, 3, 7, 0), (16, .invokestatic 71, 3, 107, 3), (19, .ifCond .ne 6, 3, 25, 0),
  (22, .bipush (-2), 2, 2, 1), (24, .ireturn, 1, 0, 0), (25, .aload_n 0, 1, 0, 0), (26, .getfield 195, 3, 11, 25), (29, .bipush 6, 2, 6, 0), (31, .if_icmp .ne 6, 3, 37, 0),
  (34, .bipush (-4), 2, 4, 1), (36, .ireturn, 1, 0, 0), (37, .aload_n 0, 1, 0, 0), (38, .getfield 43, 3, 11, 26), (41, .aload_n 0, 1, 0, 0), (42, .getfield 195, 3, 11, 25),
  (45, .iload_n 1, 1, 1, 0), (46, .iastore, 1, 0, 0), (47, .aload_n 0, 1, 0, 0), (48, .getfield 46, 3, 11, 27), (51, .aload_n 0, 1, 0, 0), (52, .getfield 195, 3, 11, 25),
  (55, .iload_n 2, 1, 2, 0), (56, .iastore, 1, 0, 0), (57, .aload_n 0, 1, 0, 0), (58, .getfield 49, 3, 11, 28), (61, .aload_n 0, 1, 0, 0), (62, .getfield 195, 3, 11, 25),
  (65, .iload_n 3, 1, 3, 0), (66, .bastore, 1, 0, 0), (67, .aload_n 0, 1, 0, 0), (68, .dup, 1, 0, 0), (69, .getfield 195, 3, 11, 25), (72, .iconst 1, 1, 1, 0),
  (73, .iadd, 1, 0, 0), (74, .putfield 195, 3, 11, 25), (77, .aload_n 0, 1, 0, 0), (78, .getfield 195, 3, 11, 25), (81, .ireturn, 1, 0, 0)]
def gc_148 : List gc_O := [
  (0, .aload_n 0, 1, 0, 0), (1, .getfield 195, 3, 11, 25), (4, .istore_n 1, 1, 1, 0), (5, .aload_n 0, 1, 0, 0), (6, .iconst 0, 1, 0, 0), (7, .putfield 195, 3, 11, 25),
  (10, .iload_n 1, 1, 1, 0), (11, .ireturn, 1, 0, 0)]
def gc_149 : List gc_O := [
  (0, .iconst 0, 1, 0, 0), (1, .istore_n 2, 1, 2, 0), (2, .iload_n 2, 1, 2, 0), (3, .bipush 13, 2, 13, 0), (5, .if_icmp .ge 19, 3, 24, 0), (8, .aload_n 0, 1, 0, 0),
  (9, .getfield 28, 3, 11, 13), (12, .bipush 26, 2, 26, 0), (14, .iload_n 2, 1, 2, 0), (15, .iadd, 1, 0, 0), (16, .iconst 0, 1, 0, 0), (17, .iastore, 1, 0, 0),
  (18, .iinc 2 1, 3, 1, 0), (21, .goto (-19), 3, 2, 0), (24, .iconst 1, 1, 1, 0), (25, .istore_n 2, 1, 2, 0), (26, .iconst 0, 1, 0, 0), (27, .istore_n 3, 1, 3, 0),
  (28, .iload_n 3, 1, 3, 0), (29, .aload_n 0, 1, 0, 0), (30, .getfield 110, 3, 11, 3), (33, .if_icmp .ge 109, 3, 142, 0), (36, .aload_n 0, 1, 0, 0), (37, .iconst 2, 1, 2, 0),
  (38, .iload_n 1, 1, 1, 0), (39, .iload_n 3, 1, 3, 0), (40, .invokestatic 130, 3, 108, 2), (43, .bipush 63, 2, 63, 0), (45, .invokevirtual 150, 3, 127, 3), (48, .pop, 1, 0, 0),
  (49, .iconst 0, 1, 0, 0), (50, .istore 4, 2, 4, 0), (52, .iload 4, 2, 4, 0), (54, .aload_n 0, 1, 0, 0), (55, .getfield 195, 3, 11, 25), (58, .if_icmp .ge 78, 3, 136, 0),
  (61, .aload_n 0, 1, 0, 0), (62, .getfield 46, 3, 11, 27), (65, .iload 4, 2, 4, 0), (67, .iaload, 1, 0, 0), (68, .iload_n 3, 1, 3, 0), (69, .if_icmp .ne 21, 3, 90, 0),
  (72, .aload_n 0, 1, 0, 0), (73, .aload_n 0, 1, 0, 0), (74, .getfield 43, 3, 11, 26), (77, .iload 4, 2, 4, 0), (79, .iaload, 1, 0, 0), (80, .invokevirtual 125, 3, 118, 1),
  (83, .ifCond .eq 7, 3, 90, 0), (86, .iconst 1, 1, 1, 0), (87, .goto 4, 3, 91, 0), (90, .iconst 0, 1, 0, 0), (91, .istore 5, 2, 5, 0), (93, .iload_n 2, 1, 2, 0),
  (94, .ifCond .eq 34, 3, 128, 0), (97, .iload 5, 2, 5, 0), (99, .ifCond .eq 25, 3, 124, 0), (102, .aload_n 0, 1, 0, 0), (103, .iconst 2, 1, 2, 0), (104, .aload_n 0, 1, 0, 0),
  (105, .getfield 43, 3, 11, 26), (108, .iload 4, 2, 4, 0), (110, .iaload, 1, 0, 0), (111, .invokevirtual 121, 3, 121, 2), (114, .aload_n 0, 1, 0, 0), (115, .getfield 49, 3, 11, 28),
  (118, .iload 4, 2, 4, 0), (120, .baload, 1, 0, 0), (121, .if_icmp .ne 7, 3, 128, 0), (124, .iconst 1, 1, 1, 0), (125, .goto 4, 3, 129, 0), (128, .iconst 0, 1, 0, 0),
  (129, .istore_n 2, 1, 2, 0), (130, .iinc 4 1, 3, 1, 0), (133, .goto (-81), 3, 52, 0), (136, .iinc 3 1, 3, 1, 0), (139, .goto (-111), 3, 28, 0), (142, .iload_n 2, 1, 2, 0),
  (143, .ireturn, 1, 0, 0)]
def gc_150 : List gc_O := [
  (0, .iload_n 1, 1, 1, 0), (1, .i2l, 1, 0, 0), (2, .lconst 0, 1, 0, 0), (3, .ldc2_w 198, 3, 2, 0), (6, .invokestatic 71, 3, 107, 3), (9, .ifCond .ne 6, 3, 15, 0),
  (12, .bipush (-2), 2, 2, 1), (14, .ireturn, 1, 0, 0), (15, .aload_n 0, 1, 0, 0), (16, .invokevirtual 147, 3, 128, 0), (19, .iconst 0, 1, 0, 0), (20, .istore_n 2, 1, 2, 0),
  (21, .iconst 1, 1, 1, 0), (22, .aload_n 0, 1, 0, 0), (23, .getfield 110, 3, 11, 3), (26, .ishl, 1, 0, 0), (27, .iconst 1, 1, 1, 0), (28, .isub, 1, 0, 0),
  (29, .istore_n 3, 1, 3, 0), (30, .iconst 0, 1, 0, 0), (31, .istore 4, 2, 4, 0), (33, .iconst 0, 1, 0, 0), (34, .istore 5, 2, 5, 0), (36, .iload 5, 2, 5, 0),
  (38, .iconst 1, 1, 1, 0), (39, .aload_n 0, 1, 0, 0), (40, .getfield 110, 3, 11, 3), (43, .ishl, 1, 0, 0), (44, .if_icmp .ge 33, 3, 77, 0), (47, .aload_n 0, 1, 0, 0),
  (48, .iload 5, 2, 5, 0), (50, .invokevirtual 200, 3, 149, 1), (53, .ifCond .eq 18, 3, 71, 0), (56, .iinc 2 1, 3, 1, 0), (59, .iload_n 3, 1, 3, 0), (60, .iload 5, 2, 5, 0),
  (62, .iand, 1, 0, 0), (63, .istore_n 3, 1, 3, 0), (64, .iload 4, 2, 4, 0), (66, .iload 5, 2, 5, 0), (68, .ior, 1, 0, 0), (69, .istore 4, 2, 4, 0),
  (71, .iinc 5 1, 3, 1, 0), (74, .goto (-38), 3, 36, 0), (77, .iload_n 1, 1, 1, 0), (78, .ifCond .ne 7, 3, 85, 0), (81, .iload_n 2, 1, 2, 0), (82, .goto 34, 3, 116, 0),
  (85, .iload_n 2, 1, 2, 0), (86, .ifCond .ne 8, 3, 94, 0), (89, .bipush (-99), 2, 99, 1), (91, .goto 25, 3, 116, 0), (94, .iload_n 1, 1, 1, 0), (95, .iconst 1, 1, 1, 0),
  (96, .if_icmp .ne 7, 3, 103, 0), (99, .iload_n 3, 1, 3, 0), (100, .goto 16, 3, 116, 0), (103, .iconst 1, 1, 1, 0), (104, .aload_n 0, 1, 0, 0), (105, .getfield 110, 3, 11, 3),
  (108, .ishl, 1, 0, 0), (109, .iconst 1, 1, 1, 0), (110, .isub, 1, 0, 0), (111, .iload 4, 2, 4, 0), (113, .iconst (-1), 1, 1, 1), (114, .ixor, 1, 0, 0),
  (115, .iand, 1, 0, 0), (116, .ireturn, 1, 0, 0)]
def gc_151 : List gc_O := [
  (0, .lconst 0, 1, 0, 0), (1, .lstore 5, 2, 5, 0), (3, .aload_n 0, 1, 0, 0), (4, .lconst 0, 1, 0, 0), (5, .putfield 203, 3, 11, 29), (8, .iconst 0, 1, 0, 0),
  (9, .istore 7, 2, 7, 0), (11, .iload 7, 2, 7, 0), (13, .iconst 1, 1, 1, 0), (14, .aload_n 0, 1, 0, 0), (15, .getfield 110, 3, 11, 3), (18, .ishl, 1, 0, 0),
  (19, .if_icmp .ge 224, 3, 243, 0), (22, .iload 7, 2, 7, 0), (24, .aload_n 0, 1, 0, 0), (25, .invokevirtual 171, 3, 135, 0), (28, .iconst (-1), 1, 1, 1), (29, .ixor, 1, 0, 0),
  (30, .iand, 1, 0, 0), (31, .ifCond .ne 7, 3, 38, 0), (34, .iconst 1, 1, 1, 0), (35, .goto 4, 3, 39, 0), (38, .iconst 0, 1, 0, 0), (39, .istore 8, 2, 8, 0),
  (41, .lconst 1, 1, 1, 0), (42, .lstore 9, 2, 9, 0), (44, .iconst 0, 1, 0, 0), (45, .istore 11, 2, 11, 0), (47, .iload 11, 2, 11, 0), (49, .aload_n 0, 1, 0, 0),
  (50, .getfield 110, 3, 11, 3), (53, .if_icmp .ge 121, 3, 174, 0), (56, .iload 7, 2, 7, 0), (58, .iload 11, 2, 11, 0), (60, .invokestatic 130, 3, 108, 2), (63, .istore 12, 2, 12, 0),
  (65, .iload 8, 2, 8, 0), (67, .ifCond .eq 22, 3, 89, 0), (70, .iload 12, 2, 12, 0), (72, .ifCond .eq 13, 3, 85, 0), (75, .aload_n 0, 1, 0, 0), (76, .getfield 7, 3, 11, 5),
  (79, .iload 11, 2, 11, 0), (81, .iaload, 1, 0, 0), (82, .ifCond .eq 7, 3, 89, 0), (85, .iconst 1, 1, 1, 0), (86, .goto 4, 3, 90, 0), (89, .iconst 0, 1, 0, 0),
  (90, .istore 8, 2, 8, 0), (92, .aload_n 0, 1, 0, 0), (93, .getfield 13, 3, 11, 6), (96, .iload 11, 2, 11, 0), (98, .iload 12, 2, 12, 0), (100, .ifCond .eq 14, 3, 114, 0),
  (103, .aload_n 0, 1, 0, 0), (104, .getfield 7, 3, 11, 5), (107, .iload 11, 2, 11, 0), (109, .iaload, 1, 0, 0), (110, .ineg, 1, 0, 0), (111, .goto 10, 3, 121, 0),
  (114, .aload_n 0, 1, 0, 0), (115, .getfield 7, 3, 11, 5), (118, .iload 11, 2, 11, 0), (120, .iaload, 1, 0, 0), (121, .iastore, 1, 0, 0), (122, .lload 9, 2, 9, 0),
  (124, .aload_n 0, 1, 0, 0), (125, .invokevirtual 171, 3, 135, 0), (128, .iload 11, 2, 11, 0), (130, .invokestatic 130, 3, 108, 2), (133, .ifCond .eq 13, 3, 146, 0), (136, .aload_n 0, 1, 0, 0),
  (137, .getfield 7, 3, 11, 5), (140, .iload 11, 2, 11, 0), (142, .iaload, 1, 0, 0), (143, .ifCond .ne 7, 3, 150, 0), (146, .lconst 1, 1, 1, 0), (147, .goto 18, 3, 165, 0),
  (150, .iload 12, 2, 12, 0), (152, .ifCond .eq 8, 3, 160, 0), (155, .iload_n 2, 1, 2, 0), (156, .i2l, 1, 0, 0), (157, .goto 8, 3, 165, 0), (160, .bipush 10, 2, 10, 0),
  (162, .iload_n 2, 1, 2, 0), (163, .isub, 1, 0, 0), (164, .i2l, 1, 0, 0), (165, .lmul, 1, 0, 0), (166, .lstore 9, 2, 9, 0), (168, .iinc 11 1, 3, 1, 0),
  (171, .goto (-124), 3, 47, 0), (174, .iload 8, 2, 8, 0), (176, .ifCond .eq 61, 3, 237, 0), (179, .aload_n 0, 1, 0, 0), (180, .iload_n 1, 1, 1, 0), (181, .iload_n 3, 1, 3, 0),
  (182, .invokevirtual 165, 3, 134, 2), (185, .istore 11, 2, 11, 0), (187, .iload 11, 2, 11, 0), (189, .iload 4, 2, 4, 0), (191, .ifCond .eq 7, 3, 198, 0), (194, .iconst 0, 1, 0, 0),
  (195, .goto 17, 3, 212, 0), (198, .aload_n 0, 1, 0, 0), (199, .getfield 107, 3, 11, 2), (202, .iload_n 1, 1, 1, 0), (203, .aload_n 0, 1, 0, 0), (204, .invokevirtual 171, 3, 135, 0),
  (207, .iand, 1, 0, 0), (208, .invokestatic 174, 3, 109, 1), (211, .imul, 1, 0, 0), (212, .iadd, 1, 0, 0), (213, .istore 11, 2, 11, 0), (215, .lload 5, 2, 5, 0),
  (217, .lload 9, 2, 9, 0), (219, .iload 11, 2, 11, 0), (221, .i2l, 1, 0, 0), (222, .lmul, 1, 0, 0), (223, .ladd, 1, 0, 0), (224, .lstore 5, 2, 5, 0),
  (226, .aload_n 0, 1, 0, 0), (227, .dup, 1, 0, 0), (228, .getfield 203, 3, 11, 29), (231, .lload 9, 2, 9, 0), (233, .ladd, 1, 0, 0), (234, .putfield 203, 3, 11, 29),
  (237, .iinc 7 1, 3, 1, 0), (240, .goto (-229), 3, 11, 0), (243, .lload 5, 2, 5, 0), (245, .lreturn, 1, 0, 0)]
def gc_152 : List gc_O := [
  (0, .iload_n 1, 1, 1, 0), (1, .i2l, 1, 0, 0), (2, .lconst 0, 1, 0, 0), (3, .ldc2_w 69, 3, 255, 0), (6, .invokestatic 71, 3, 107, 3), (9, .ifCond .eq 15, 3, 24, 0),
  (12, .iload_n 2, 1, 2, 0), (13, .i2l, 1, 0, 0), (14, .lconst 0, 1, 0, 0), (15, .ldc2_w 207, 3, 10, 0), (18, .invokestatic 71, 3, 107, 3), (21, .ifCond .ne 7, 3, 28, 0),
  (24, .ldc2_w 209, 3, 1000000000002, 1), (27, .lreturn, 1, 0, 0), (28, .aload_n 0, 1, 0, 0), (29, .iload_n 1, 1, 1, 0), (30, .iload_n 2, 1, 2, 0), (31, .bipush 63, 2, 63, 0),
  (33, .iconst 1, 1, 1, 0), (34, .invokevirtual 211, 3, 151, 4), (37, .lstore 4, 2, 4, 0), (39, .lload 4, 2, 4, 0), (41, .aload_n 0, 1, 0, 0), (42, .getfield 203, 3, 11, 29),
  (45, .invokestatic 184, 3, 141, 2), (48, .lstore 6, 2, 6, 0), (50, .iload_n 3, 1, 3, 0), (51, .ifCond .eq 11, 3, 62, 0), (54, .lload 4, 2, 4, 0), (56, .lload 6, 2, 6, 0),
  (58, .ldiv, 1, 0, 0), (59, .goto 10, 3, 69, 0), (62, .aload_n 0, 1, 0, 0), (63, .getfield 203, 3, 11, 29), (66, .lload 6, 2, 6, 0), (68, .ldiv, 1, 0, 0),
  (69, .lreturn, 1, 0, 0)]
def gc_153 : List gc_O := [
  (0, .aload_n 0, 1, 0, 0), (1, .iload_n 1, 1, 1, 0), (2, .invokevirtual 125, 3, 118, 1), (5, .ifCond .ne 7, 3, 12, 0), (8, .ldc2_w 215, 3, 1000000000001, 1), (11, .lreturn, 1, 0, 0),
  (12, .iload_n 2, 1, 2, 0), (13, .i2l, 1, 0, 0), (14, .lconst 0, 1, 0, 0), (15, .ldc2_w 69, 3, 255, 0), (18, .invokestatic 71, 3, 107, 3), (21, .ifCond .eq 15, 3, 36, 0),
  (24, .iload_n 3, 1, 3, 0), (25, .i2l, 1, 0, 0), (26, .lconst 0, 1, 0, 0), (27, .ldc2_w 207, 3, 10, 0), (30, .invokestatic 71, 3, 107, 3), (33, .ifCond .ne 7, 3, 40, 0),
  (36, .ldc2_w 209, 3, 1000000000002, 1), (39, .lreturn, 1, 0, 0), (40, .aload_n 0, 1, 0, 0), (41, .iload_n 2, 1, 2, 0), (42, .iload_n 3, 1, 3, 0), (43, .iconst 1, 1, 1, 0),
  (44, .iload_n 1, 1, 1, 0), (45, .ishl, 1, 0, 0), (46, .iconst 0, 1, 0, 0), (47, .invokevirtual 211, 3, 151, 4), (50, .lstore 5, 2, 5, 0), (52, .lload 5, 2, 5, 0),
  (54, .aload_n 0, 1, 0, 0), (55, .getfield 203, 3, 11, 29), (58, .invokestatic 184, 3, 141, 2), (61, .lstore 7, 2, 7, 0), (63, .iload 4, 2, 4, 0), (65, .ifCond .eq 11, 3, 76, 0),
  (68, .lload 5, 2, 5, 0), (70, .lload 7, 2, 7, 0), (72, .ldiv, 1, 0, 0), (73, .goto 10, 3, 83, 0), (76, .aload_n 0, 1, 0, 0), (77, .getfield 203, 3, 11, 29),
  (80, .lload 7, 2, 7, 0), (82, .ldiv, 1, 0, 0), (83, .lreturn, 1, 0, 0)]
def gc_154 : List gc_O := [
  (0, .aload_n 0, 1, 0, 0), (1, .invokevirtual 147, 3, 128, 0), (4, .aload_n 0, 1, 0, 0), (5, .iconst 0, 1, 0, 0), (6, .iconst 1, 1, 1, 0), (7, .invokevirtual 157, 3, 129, 2),
  (10, .aload_n 0, 1, 0, 0), (11, .iconst 0, 1, 0, 0), (12, .iconst 2, 1, 2, 0), (13, .invokevirtual 157, 3, 129, 2), (16, .iconst 0, 1, 0, 0), (17, .istore 4, 2, 4, 0),
  (19, .iload 4, 2, 4, 0), (21, .bipush 10, 2, 10, 0), (23, .if_icmp .ge 20, 3, 43, 0), (26, .aload_n 0, 1, 0, 0), (27, .getfield 28, 3, 11, 13), (30, .bipush 26, 2, 26, 0),
  (32, .iload 4, 2, 4, 0), (34, .iadd, 1, 0, 0), (35, .iconst 0, 1, 0, 0), (36, .iastore, 1, 0, 0), (37, .iinc 4 1, 3, 1, 0), (40, .goto (-21), 3, 19, 0),
  (43, .aload_n 0, 1, 0, 0), (44, .iload_n 1, 1, 1, 0), (45, .bipush 9, 2, 9, 0), (47, .if_icmp .ge 11, 3, 58, 0), (50, .aload_n 0, 1, 0, 0), (51, .getfield 107, 3, 11, 2),
  (54, .ineg, 1, 0, 0), (55, .goto 4, 3, 59, 0), (58, .iconst 0, 1, 0, 0), (59, .putfield 217, 3, 11, 30), (62, .aload_n 0, 1, 0, 0), (63, .iload_n 2, 1, 2, 0),
  (64, .bipush 9, 2, 9, 0), (66, .if_icmp .ge 11, 3, 77, 0), (69, .aload_n 0, 1, 0, 0), (70, .getfield 107, 3, 11, 2), (73, .ineg, 1, 0, 0), (74, .goto 4, 3, 78, 0),
  (77, .iconst 0, 1, 0, 0), (78, .putfield 220, 3, 11, 31), (81, .aload_n 0, 1, 0, 0), (82, .getfield 28, 3, 11, 13), (85, .bipush 12, 2, 12, 0), (87, .iaload, 1, 0, 0),
  (88, .istore 4, 2, 4, 0), (90, .iload 4, 2, 4, 0), (92, .aload_n 0, 1, 0, 0), (93, .getfield 110, 3, 11, 3), (96, .if_icmp .ge 223, 3, 319, 0), (99, .aload_n 0, 1, 0, 0),
  (100, .iconst 1, 1, 1, 0), (101, .aload_n 0, 1, 0, 0), (102, .getfield 13, 3, 11, 6), (105, .iload 4, 2, 4, 0), (107, .iaload, 1, 0, 0), (108, .iload 4, 2, 4, 0),
  (110, .iload_n 1, 1, 1, 0), (111, .if_icmp .ne 10, 3, 121, 0), (114, .aload_n 0, 1, 0, 0), (115, .getfield 104, 3, 11, 0), (118, .goto 5, 3, 123, 0), (121, .bipush (-99), 2, 99, 1),
  (123, .invokevirtual 133, 3, 125, 3), (126, .aload_n 0, 1, 0, 0), (127, .iconst 2, 1, 2, 0), (128, .aload_n 0, 1, 0, 0), (129, .getfield 13, 3, 11, 6), (132, .iload 4, 2, 4, 0),
  (134, .iaload, 1, 0, 0), (135, .iload 4, 2, 4, 0), (137, .iload_n 2, 1, 2, 0), (138, .if_icmp .ne 7, 3, 145, 0), (141, .iload_n 3, 1, 3, 0), (142, .goto 5, 3, 147, 0),
  (145, .bipush (-99), 2, 99, 1), (147, .invokevirtual 133, 3, 125, 3), (150, .iconst 0, 1, 0, 0), (151, .istore 5, 2, 5, 0), (153, .iload 5, 2, 5, 0), (155, .aload_n 0, 1, 0, 0),
  (156, .getfield 113, 3, 11, 4), (159, .if_icmp .ge 154, 3, 313, 0), (162, .aload_n 0, 1, 0, 0), (163, .getfield 28, 3, 11, 13), (166, .bipush 13, 2, 13, 0), (168, .aload_n 0, 1, 0, 0),
  (169, .getfield 16, 3, 11, 7), (172, .iconst 4, 1, 4, 0), (173, .iload 5, 2, 5, 0), (175, .imul, 1, 0, 0), (176, .iaload, 1, 0, 0), (177, .iadd, 1, 0, 0),
  (178, .iaload, 1, 0, 0), (179, .istore 6, 2, 6, 0), (181, .aload_n 0, 1, 0, 0), (182, .getfield 28, 3, 11, 13), (185, .bipush 26, 2, 26, 0), (187, .aload_n 0, 1, 0, 0),
  (188, .getfield 16, 3, 11, 7), (191, .iconst 4, 1, 4, 0), (192, .iload 5, 2, 5, 0), (194, .imul, 1, 0, 0), (195, .iaload, 1, 0, 0), (196, .iadd, 1, 0, 0),
  (197, .iaload, 1, 0, 0), (198, .istore 7, 2, 7, 0), (200, .aload_n 0, 1, 0, 0), (201, .iload 5, 2, 5, 0), (203, .iload 6, 2, 6, 0), (205, .iload 7, 2, 7, 0),
  (207, .if_icmp .le 8, 3, 215, 0), (210, .iload 6, 2, 6, 0), (212, .goto 5, 3, 217, 0), (215, .iload 7, 2, 7, 0), (217, .aload_n 0, 1, 0, 0), (218, .getfield 16, 3, 11, 7),
  (221, .iconst 4, 1, 4, 0), (222, .iload 5, 2, 5, 0), (224, .imul, 1, 0, 0), (225, .iconst 1, 1, 1, 0), (226, .iadd, 1, 0, 0), (227, .iaload, 1, 0, 0),
  (228, .if_icmp .lt 7, 3, 235, 0), (231, .iconst 1, 1, 1, 0), (232, .goto 4, 3, 236, 0), (235, .iconst 0, 1, 0, 0), (236, .aload_n 0, 1, 0, 0), (237, .getfield 13, 3, 11, 6),
  (240, .iload 4, 2, 4, 0), (242, .iaload, 1, 0, 0), (243, .invokevirtual 137, 3, 126, 3), (246, .istore 8, 2, 8, 0), (248, .iload 8, 2, 8, 0), (250, .ifCond .le 14, 3, 264, 0),
  (253, .iload 7, 2, 7, 0), (255, .iload 6, 2, 6, 0), (257, .if_icmp .le 7, 3, 264, 0), (260, .iconst 1, 1, 1, 0), (261, .goto 4, 3, 265, 0), (264, .iconst 0, 1, 0, 0),
  (265, .istore 9, 2, 9, 0), (267, .aload_n 0, 1, 0, 0), (268, .dup, 1, 0, 0), (269, .getfield 217, 3, 11, 30), (272, .iload 9, 2, 9, 0), (274, .ifCond .eq 7, 3, 281, 0),
  (277, .iconst 0, 1, 0, 0), (278, .goto 5, 3, 283, 0), (281, .iload 8, 2, 8, 0), (283, .iadd, 1, 0, 0), (284, .putfield 217, 3, 11, 30), (287, .aload_n 0, 1, 0, 0),
  (288, .dup, 1, 0, 0), (289, .getfield 220, 3, 11, 31), (292, .iload 9, 2, 9, 0), (294, .ifCond .eq 8, 3, 302, 0), (297, .iload 8, 2, 8, 0), (299, .goto 4, 3, 303, 0),
  (302, .iconst 0, 1, 0, 0), (303, .iadd, 1, 0, 0), (304, .putfield 220, 3, 11, 31), (307, .iinc 5 1, 3, 1, 0), (310, .goto (-157), 3, 153, 0), (313, .iinc 4 1, 3, 1, 0),
  (316, .goto (-226), 3, 90, 0), (319, .return_, 1, 0, 0)]
def gc_155 : List gc_O := [
  (0, .iload_n 1, 1, 1, 0), (1, .bipush 9, 2, 9, 0), (3, .if_icmp .eq 26, 3, 29, 0), (6, .iload_n 1, 1, 1, 0), (7, .i2l, 1, 0, 0), (8, .aload_n 0, 1, 0, 0),
  (9, .getfield 28, 3, 11, 13), (12, .bipush 12, 2, 12, 0), (14, .iaload, 1, 0, 0), (15, .i2l, 1, 0, 0), (16, .aload_n 0, 1, 0, 0), (17, .getfield 110, 3, 11, 3),
  (20, .iconst 1, 1, 1, 0), (21, .isub, 1, 0, 0), (22, .i2l, 1, 0, 0), (23, .invokestatic 71, 3, 107, 3), (26, .ifCond .eq 7, 3, 33, 0), (29, .iconst 1, 1, 1, 0),
  (30, .goto 4, 3, 34, 0), (33, .iconst 0, 1, 0, 0), (34, .ireturn, 1, 0, 0)]
def gc_156 : List gc_O := [
  (0, .iconst 1, 1, 1, 0), (1, .istore_n 3, 1, 3, 0), (2, .iconst 0, 1, 0, 0), (3, .istore 4, 2, 4, 0), (5, .iload 4, 2, 4, 0), (7, .bipush 10, 2, 10, 0),
  (9, .if_icmp .ge 80, 3, 89, 0), (12, .aload_n 0, 1, 0, 0), (13, .iload 4, 2, 4, 0), (15, .invokevirtual 223, 3, 155, 1), (18, .ifCond .eq 65, 3, 83, 0), (21, .iload_n 3, 1, 3, 0),
  (22, .ifCond .eq 59, 3, 81, 0), (25, .aload_n 0, 1, 0, 0), (26, .getfield 53, 3, 11, 32), (29, .bipush 10, 2, 10, 0), (31, .iload 4, 2, 4, 0), (33, .imul, 1, 0, 0),
  (34, .iload_n 2, 1, 2, 0), (35, .iadd, 1, 0, 0), (36, .iaload, 1, 0, 0), (37, .aload_n 0, 1, 0, 0), (38, .getfield 53, 3, 11, 32), (41, .bipush 10, 2, 10, 0),
  (43, .iload_n 1, 1, 1, 0), (44, .imul, 1, 0, 0), (45, .iload_n 2, 1, 2, 0), (46, .iadd, 1, 0, 0), (47, .iaload, 1, 0, 0), (48, .if_icmp .gt 33, 3, 81, 0),
  (51, .aload_n 0, 1, 0, 0), (52, .getfield 56, 3, 11, 33), (55, .bipush 10, 2, 10, 0), (57, .iload_n 1, 1, 1, 0), (58, .imul, 1, 0, 0), (59, .iload 4, 2, 4, 0),
  (61, .iadd, 1, 0, 0), (62, .iaload, 1, 0, 0), (63, .aload_n 0, 1, 0, 0), (64, .getfield 56, 3, 11, 33), (67, .bipush 10, 2, 10, 0), (69, .iload_n 1, 1, 1, 0),
  (70, .imul, 1, 0, 0), (71, .iload_n 2, 1, 2, 0), (72, .iadd, 1, 0, 0), (73, .iaload, 1, 0, 0), (74, .if_icmp .gt 7, 3, 81, 0), (77, .iconst 1, 1, 1, 0),
  (78, .goto 4, 3, 82, 0), (81, .iconst 0, 1, 0, 0), (82, .istore_n 3, 1, 3, 0), (83, .iinc 4 1, 3, 1, 0), (86, .goto (-81), 3, 5, 0), (89, .iload_n 3, 1, 3, 0),
  (90, .ireturn, 1, 0, 0)]
def gc_157 : List gc_O := [
  (0, .iload_n 1, 1, 1, 0), (1, .i2l, 1, 0, 0), (2, .lconst 0, 1, 0, 0), (3, .ldc2_w 119, 3, 9, 0), (6, .invokestatic 71, 3, 107, 3), (9, .ifCond .eq 13, 3, 22, 0),
  (12, .iload_n 2, 1, 2, 0), (13, .i2l, 1, 0, 0), (14, .lconst 0, 1, 0, 0), (15, .lconst 1, 1, 1, 0), (16, .invokestatic 71, 3, 107, 3), (19, .ifCond .ne 6, 3, 25, 0),
  (22, .bipush (-2), 2, 2, 1), (24, .ireturn, 1, 0, 0), (25, .iconst 0, 1, 0, 0), (26, .istore_n 3, 1, 3, 0), (27, .iload_n 3, 1, 3, 0), (28, .bipush 100, 2, 100, 0),
  (30, .if_icmp .ge 64, 3, 94, 0), (33, .aload_n 0, 1, 0, 0), (34, .iload_n 3, 1, 3, 0), (35, .bipush 10, 2, 10, 0), (37, .idiv, 1, 0, 0), (38, .invokevirtual 223, 3, 155, 1),
  (41, .ifCond .eq 47, 3, 88, 0), (44, .aload_n 0, 1, 0, 0), (45, .iload_n 3, 1, 3, 0), (46, .bipush 10, 2, 10, 0), (48, .irem, 1, 0, 0), (49, .invokevirtual 223, 3, 155, 1),
  (52, .ifCond .eq 36, 3, 88, 0), (55, .aload_n 0, 1, 0, 0), (56, .iload_n 3, 1, 3, 0), (57, .bipush 10, 2, 10, 0), (59, .idiv, 1, 0, 0), (60, .iload_n 3, 1, 3, 0),
  (61, .bipush 10, 2, 10, 0), (63, .irem, 1, 0, 0), (64, .iload_n 1, 1, 1, 0), (65, .invokevirtual 226, 3, 154, 3), (68, .aload_n 0, 1, 0, 0), (69, .getfield 53, 3, 11, 32),
  (72, .iload_n 3, 1, 3, 0), (73, .aload_n 0, 1, 0, 0), (74, .getfield 217, 3, 11, 30), (77, .iastore, 1, 0, 0), (78, .aload_n 0, 1, 0, 0), (79, .getfield 56, 3, 11, 33),
  (82, .iload_n 3, 1, 3, 0), (83, .aload_n 0, 1, 0, 0), (84, .getfield 220, 3, 11, 31), (87, .iastore, 1, 0, 0), (88, .iinc 3 1, 3, 1, 0), (91, .goto (-64), 3, 27, 0),
  (94, .iconst 0, 1, 0, 0), (95, .istore_n 3, 1, 3, 0), (96, .bipush (-99), 2, 99, 1), (98, .istore 4, 2, 4, 0), (100, .iconst 0, 1, 0, 0), (101, .istore 5, 2, 5, 0),
  (103, .iload 5, 2, 5, 0), (105, .bipush 100, 2, 100, 0), (107, .if_icmp .ge 66, 3, 173, 0), (110, .aload_n 0, 1, 0, 0), (111, .iload 5, 2, 5, 0), (113, .bipush 10, 2, 10, 0),
  (115, .idiv, 1, 0, 0), (116, .invokevirtual 223, 3, 155, 1), (119, .ifCond .eq 48, 3, 167, 0), (122, .aload_n 0, 1, 0, 0), (123, .iload 5, 2, 5, 0), (125, .bipush 10, 2, 10, 0),
  (127, .irem, 1, 0, 0), (128, .invokevirtual 223, 3, 155, 1), (131, .ifCond .eq 36, 3, 167, 0), (134, .aload_n 0, 1, 0, 0), (135, .iload 5, 2, 5, 0), (137, .bipush 10, 2, 10, 0),
  (139, .idiv, 1, 0, 0), (140, .iload 5, 2, 5, 0), (142, .bipush 10, 2, 10, 0), (144, .irem, 1, 0, 0), (145, .invokevirtual 229, 3, 156, 2), (148, .ifCond .eq 19, 3, 167, 0),
  (151, .iload_n 3, 1, 3, 0), (152, .ifCond .ne 8, 3, 160, 0), (155, .iload 5, 2, 5, 0), (157, .goto 5, 3, 162, 0), (160, .iload 4, 2, 4, 0), (162, .istore 4, 2, 4, 0),
  (164, .iinc 3 1, 3, 1, 0), (167, .iinc 5 1, 3, 1, 0), (170, .goto (-67), 3, 103, 0), (173, .iload_n 2, 1, 2, 0), (174, .ifCond .ne 7, 3, 181, 0), (177, .iload_n 3, 1, 3, 0),
  (178, .goto 5, 3, 183, 0), (181, .iload 4, 2, 4, 0), (183, .ireturn, 1, 0, 0)]
def gc_158 : List gc_O := [
  (0, .aload_n 0, 1, 0, 0), (1, .getfield 232, 3, 11, 34), (4, .lstore_n 3, 1, 3, 0), (5, .aload_n 0, 1, 0, 0), (6, .lload_n 1, 1, 1, 0), (7, .putfield 232, 3, 11, 34),
  (10, .lload_n 3, 1, 3, 0), (11, .lreturn, 1, 0, 0)]
def gc_159 : List gc_O := [
  (0, .iload_n 1, 1, 1, 0), (1, .i2l, 1, 0, 0), (2, .lconst 1, 1, 1, 0), (3, .ldc2_w 235, 3, 20, 0), (6, .invokestatic 71, 3, 107, 3), (9, .ifCond .ne 6, 3, 15, 0),
  (12, .ldc 164, 2, 1000002, 1), (14, .ireturn, 1, 0, 0), (15, .aload_n 0, 1, 0, 0), (16, .invokevirtual 147, 3, 128, 0), (19, .iconst 0, 1, 0, 0), (20, .istore_n 2, 1, 2, 0),
  (21, .iconst 0, 1, 0, 0), (22, .istore_n 3, 1, 3, 0), (23, .iload_n 3, 1, 3, 0), (24, .iload_n 1, 1, 1, 0), (25, .if_icmp .ge 79, 3, 104, 0), (28, .aload_n 0, 1, 0, 0),
  (29, .iconst 0, 1, 0, 0), (30, .iconst 1, 1, 1, 0), (31, .invokevirtual 157, 3, 129, 2), (34, .aload_n 0, 1, 0, 0), (35, .getfield 28, 3, 11, 13), (38, .bipush 25, 2, 25, 0),
  (40, .iaload, 1, 0, 0), (41, .aload_n 0, 1, 0, 0), (42, .getfield 110, 3, 11, 3), (45, .if_icmp .ge 53, 3, 98, 0), (48, .aload_n 0, 1, 0, 0), (49, .aload_n 0, 1, 0, 0),
  (50, .getfield 232, 3, 11, 34), (53, .ldc2_w 237, 3, 6364136223846793005, 0), (56, .lmul, 1, 0, 0), (57, .ldc2_w 239, 3, 1442695040888963407, 0), (60, .ladd, 1, 0, 0), (61, .putfield 232, 3, 11, 34),
  (64, .iload_n 2, 1, 2, 0), (65, .aload_n 0, 1, 0, 0), (66, .iconst 1, 1, 1, 0), (67, .aload_n 0, 1, 0, 0), (68, .getfield 232, 3, 11, 34), (71, .bipush 33, 2, 33, 0),
  (73, .lushr, 1, 0, 0), (74, .ldc2_w 198, 3, 2, 0), (77, .lrem, 1, 0, 0), (78, .lconst 1, 1, 1, 0), (79, .lcmp, 1, 0, 0), (80, .ifCond .ne 7, 3, 87, 0),
  (83, .iconst 1, 1, 1, 0), (84, .goto 4, 3, 88, 0), (87, .iconst 0, 1, 0, 0), (88, .bipush 63, 2, 63, 0), (90, .invokevirtual 150, 3, 127, 3), (93, .iadd, 1, 0, 0),
  (94, .istore_n 2, 1, 2, 0), (95, .goto (-61), 3, 34, 0), (98, .iinc 3 1, 3, 1, 0), (101, .goto (-78), 3, 23, 0), (104, .iload_n 2, 1, 2, 0), (105, .ireturn, 1, 0, 0)]
def gc_160 : List gc_O := [
  (0, .iload_n 1, 1, 1, 0), (1, .i2l, 1, 0, 0), (2, .lconst 0, 1, 0, 0), (3, .lconst 1, 1, 1, 0), (4, .invokestatic 71, 3, 107, 3), (7, .ifCond .ne 5, 3, 12, 0),
  (10, .iconst (-1), 1, 1, 1), (11, .ireturn, 1, 0, 0), (12, .aload_n 0, 1, 0, 0), (13, .getfield 59, 3, 11, 35), (16, .iload_n 1, 1, 1, 0), (17, .iconst 1, 1, 1, 0),
  (18, .bastore, 1, 0, 0), (19, .iconst 0, 1, 0, 0), (20, .istore_n 2, 1, 2, 0), (21, .iload_n 2, 1, 2, 0), (22, .bipush 13, 2, 13, 0), (24, .if_icmp .ge 26, 3, 50, 0),
  (27, .aload_n 0, 1, 0, 0), (28, .getfield 62, 3, 11, 36), (31, .bipush 13, 2, 13, 0), (33, .iload_n 1, 1, 1, 0), (34, .imul, 1, 0, 0), (35, .iload_n 2, 1, 2, 0),
  (36, .iadd, 1, 0, 0), (37, .aload_n 0, 1, 0, 0), (38, .getfield 28, 3, 11, 13), (41, .iload_n 2, 1, 2, 0), (42, .iaload, 1, 0, 0), (43, .iastore, 1, 0, 0),
  (44, .iinc 2 1, 3, 1, 0), (47, .goto (-26), 3, 21, 0), (50, .aload_n 0, 1, 0, 0), (51, .getfield 28, 3, 11, 13), (54, .bipush 12, 2, 12, 0), (56, .iaload, 1, 0, 0),
  (57, .ireturn, 1, 0, 0)]
def gc_161 : List gc_O := [
  (0, .iload_n 1, 1, 1, 0), (1, .i2l, 1, 0, 0), (2, .lconst 0, 1, 0, 0), (3, .lconst 1, 1, 1, 0), (4, .invokestatic 71, 3, 107, 3), (7, .ifCond .ne 5, 3, 12, 0),
  (10, .iconst (-1), 1, 1, 1), (11, .ireturn, 1, 0, 0), (12, .aload_n 0, 1, 0, 0), (13, .getfield 59, 3, 11, 35), (16, .iload_n 1, 1, 1, 0), (17, .baload, 1, 0, 0),
  (18, .ifCond .ne 6, 3, 24, 0), (21, .bipush (-3), 2, 3, 1), (23, .ireturn, 1, 0, 0), (24, .iconst 0, 1, 0, 0), (25, .istore_n 2, 1, 2, 0), (26, .iload_n 2, 1, 2, 0),
  (27, .bipush 13, 2, 13, 0), (29, .if_icmp .ge 26, 3, 55, 0), (32, .aload_n 0, 1, 0, 0), (33, .getfield 28, 3, 11, 13), (36, .iload_n 2, 1, 2, 0), (37, .aload_n 0, 1, 0, 0),
  (38, .getfield 62, 3, 11, 36), (41, .bipush 13, 2, 13, 0), (43, .iload_n 1, 1, 1, 0), (44, .imul, 1, 0, 0), (45, .iload_n 2, 1, 2, 0), (46, .iadd, 1, 0, 0),
  (47, .iaload, 1, 0, 0), (48, .iastore, 1, 0, 0), (49, .iinc 2 1, 3, 1, 0), (52, .goto (-26), 3, 26, 0), (55, .aload_n 0, 1, 0, 0), (56, .iconst 0, 1, 0, 0),
  (57, .putfield 116, 3, 11, 19), (60, .aload_n 0, 1, 0, 0), (61, .getfield 28, 3, 11, 13), (64, .bipush 12, 2, 12, 0), (66, .iaload, 1, 0, 0), (67, .ireturn, 1, 0, 0)]
def gc_162 : List gc_O := [
  (0, .iload_n 1, 1, 1, 0), (1, .tableswitch 121 0 10 #[59, 64, 69, 74, 79, 84, 89, 97, 105, 111, 116], 59, 0, 0), (60, .aload_n 0, 1, 0, 0), (61, .getfield 75, 3, 11, 15), (64, .ireturn, 1, 0, 0), (65, .aload_n 0, 1, 0, 0),
  (66, .getfield 110, 3, 11, 3), (69, .ireturn, 1, 0, 0), (70, .aload_n 0, 1, 0, 0), (71, .getfield 113, 3, 11, 4), (74, .ireturn, 1, 0, 0), (75, .aload_n 0, 1, 0, 0),
  (76, .getfield 104, 3, 11, 0), (79, .ireturn, 1, 0, 0), (80, .aload_n 0, 1, 0, 0), (81, .getfield 65, 3, 11, 1), (84, .ireturn, 1, 0, 0), (85, .aload_n 0, 1, 0, 0),
  (86, .getfield 107, 3, 11, 2), (89, .ireturn, 1, 0, 0), (90, .aload_n 0, 1, 0, 0), (91, .getfield 28, 3, 11, 13), (94, .bipush 12, 2, 12, 0), (96, .iaload, 1, 0, 0),
  (97, .ireturn, 1, 0, 0), (98, .aload_n 0, 1, 0, 0), (99, .getfield 28, 3, 11, 13), (102, .bipush 10, 2, 10, 0), (104, .iaload, 1, 0, 0), (105, .ireturn, 1, 0, 0),
  (106, .aload_n 0, 1, 0, 0), (107, .iconst 0, 1, 0, 0), (108, .invokevirtual 153, 3, 122, 1), (111, .ireturn, 1, 0, 0), (112, .aload_n 0, 1, 0, 0), (113, .getfield 116, 3, 11, 19),
  (116, .ireturn, 1, 0, 0), (117, .aload_n 0, 1, 0, 0), (118, .getfield 195, 3, 11, 25), (121, .ireturn, 1, 0, 0), (122, .bipush (-2), 2, 2, 1), (124, .ireturn, 1, 0, 0)]
def gc_163 : List gc_O := [
  (0, .iload_n 0, 1, 0, 0), (1, .iload_n 0, 1, 0, 0), (2, .iconst 1, 1, 1, 0), (3, .iushr, 1, 0, 0), (4, .ldc_w 265, 3, 1431655765, 0), (7, .iand, 1, 0, 0),
  (8, .isub, 1, 0, 0), (9, .istore_n 0, 1, 0, 0), (10, .iload_n 0, 1, 0, 0), (11, .ldc_w 266, 3, 858993459, 0), (14, .iand, 1, 0, 0), (15, .iload_n 0, 1, 0, 0),
  (16, .iconst 2, 1, 2, 0), (17, .iushr, 1, 0, 0), (18, .ldc_w 266, 3, 858993459, 0), (21, .iand, 1, 0, 0), (22, .iadd, 1, 0, 0), (23, .istore_n 0, 1, 0, 0),
  (24, .iload_n 0, 1, 0, 0), (25, .iload_n 0, 1, 0, 0), (26, .iconst 4, 1, 4, 0), (27, .iushr, 1, 0, 0), (28, .iadd, 1, 0, 0), (29, .ldc_w 267, 3, 252645135, 0),
  (32, .iand, 1, 0, 0), (33, .istore_n 0, 1, 0, 0), (34, .iload_n 0, 1, 0, 0), (35, .iload_n 0, 1, 0, 0), (36, .bipush 8, 2, 8, 0), (38, .iushr, 1, 0, 0),
  (39, .iadd, 1, 0, 0), (40, .istore_n 0, 1, 0, 0), (41, .iload_n 0, 1, 0, 0), (42, .iload_n 0, 1, 0, 0), (43, .bipush 16, 2, 16, 0), (45, .iushr, 1, 0, 0),
  (46, .iadd, 1, 0, 0), (47, .istore_n 0, 1, 0, 0), (48, .iload_n 0, 1, 0, 0), (49, .bipush 63, 2, 63, 0), (51, .iand, 1, 0, 0), (52, .ireturn, 1, 0, 0)]
def gc_164_0 : List gc_O := [
  (0, .new 7, 3, 10, 0), (3, .dup, 1, 0, 0), (4, .invokespecial 9, 3, 63, 0), (7, .astore_n 1, 1, 1, 0), (8, .new 10, 3, 11, 0), (11, .dup, 1, 0, 0),
  (12, .invokespecial 12, 3, 106, 0), (15, .astore_n 2, 1, 2, 0), (16, .iconst 0, 1, 0, 0), (17, .istore_n 3, 1, 3, 0), (18, .iload_n 3, 1, 3, 0), (19, .aload_n 0, 1, 0, 0),
  (20, .arraylength, 1, 0, 0), (21, .iconst 5, 1, 5, 0), (22, .isub, 1, 0, 0), (23, .if_icmp .gt 983, 3, 1006, 0), (26, .aload_n 0, 1, 0, 0), (27, .iload_n 3, 1, 3, 0),
  (28, .iaload, 1, 0, 0), (29, .bipush 31, 2, 31, 0), (31, .iand, 1, 0, 0), (32, .tableswitch 968 0 28 #[132, 155, 168, 181, 194, 217, 240, 273, 286, 325, 348, 361, 384, 423, 436, 485, 518, 541, 564, 623, 636, 659, 719, 789, 822, 876, 899, 922, 945], 132, 0, 0), (164, .aload_n 1, 1, 1, 0), (165, .aload_n 0, 1, 0, 0),
  (166, .iload_n 3, 1, 3, 0), (167, .iconst 1, 1, 1, 0), (168, .iadd, 1, 0, 0), (169, .iaload, 1, 0, 0), (170, .invokevirtual 13, 3, 64, 1), (173, .aload_n 2, 1, 2, 0),
  (174, .aload_n 0, 1, 0, 0), (175, .iload_n 3, 1, 3, 0), (176, .iconst 1, 1, 1, 0), (177, .iadd, 1, 0, 0), (178, .iaload, 1, 0, 0), (179, .invokevirtual 17, 3, 110, 1),
  (182, .if_icmp .eq 818, 3, 1000, 0), (185, .iconst 0, 1, 0, 0), (186, .ireturn, 1, 0, 0), (187, .aload_n 1, 1, 1, 0)]
def gc_164_1 : List gc_O := [
  (188, .invokevirtual 18, 3, 65, 0), (191, .aload_n 2, 1, 2, 0), (192, .invokevirtual 22, 3, 111, 0), (195, .if_icmp .eq 805, 3, 1000, 0), (198, .iconst 0, 1, 0, 0), (199, .ireturn, 1, 0, 0),
  (200, .aload_n 1, 1, 1, 0), (201, .invokevirtual 23, 3, 66, 0), (204, .aload_n 2, 1, 2, 0), (205, .invokevirtual 26, 3, 116, 0), (208, .if_icmp .eq 792, 3, 1000, 0), (211, .iconst 0, 1, 0, 0),
  (212, .ireturn, 1, 0, 0), (213, .aload_n 1, 1, 1, 0), (214, .invokevirtual 27, 3, 67, 0), (217, .aload_n 2, 1, 2, 0), (218, .invokevirtual 30, 3, 117, 0), (221, .if_icmp .eq 779, 3, 1000, 0),
  (224, .iconst 0, 1, 0, 0), (225, .ireturn, 1, 0, 0), (226, .aload_n 1, 1, 1, 0), (227, .aload_n 0, 1, 0, 0), (228, .iload_n 3, 1, 3, 0), (229, .iconst 1, 1, 1, 0),
  (230, .iadd, 1, 0, 0), (231, .iaload, 1, 0, 0), (232, .invokevirtual 31, 3, 68, 1), (235, .aload_n 2, 1, 2, 0), (236, .aload_n 0, 1, 0, 0), (237, .iload_n 3, 1, 3, 0),
  (238, .iconst 1, 1, 1, 0), (239, .iadd, 1, 0, 0), (240, .iaload, 1, 0, 0), (241, .invokevirtual 34, 3, 119, 1), (244, .if_icmp .eq 756, 3, 1000, 0), (247, .iconst 0, 1, 0, 0),
  (248, .ireturn, 1, 0, 0), (249, .aload_n 1, 1, 1, 0), (250, .aload_n 0, 1, 0, 0), (251, .iload_n 3, 1, 3, 0)]
def gc_164_2 : List gc_O := [
  (252, .iconst 1, 1, 1, 0), (253, .iadd, 1, 0, 0), (254, .iaload, 1, 0, 0), (255, .invokevirtual 35, 3, 69, 1), (258, .aload_n 2, 1, 2, 0), (259, .aload_n 0, 1, 0, 0),
  (260, .iload_n 3, 1, 3, 0), (261, .iconst 1, 1, 1, 0), (262, .iadd, 1, 0, 0), (263, .iaload, 1, 0, 0), (264, .invokevirtual 38, 3, 120, 1), (267, .if_icmp .eq 733, 3, 1000, 0),
  (270, .iconst 0, 1, 0, 0), (271, .ireturn, 1, 0, 0), (272, .aload_n 1, 1, 1, 0), (273, .aload_n 0, 1, 0, 0), (274, .iload_n 3, 1, 3, 0), (275, .iconst 1, 1, 1, 0),
  (276, .iadd, 1, 0, 0), (277, .iaload, 1, 0, 0), (278, .aload_n 0, 1, 0, 0), (279, .iload_n 3, 1, 3, 0), (280, .iconst 2, 1, 2, 0), (281, .iadd, 1, 0, 0),
  (282, .iaload, 1, 0, 0), (283, .invokevirtual 39, 3, 70, 2), (286, .aload_n 2, 1, 2, 0), (287, .aload_n 0, 1, 0, 0), (288, .iload_n 3, 1, 3, 0), (289, .iconst 1, 1, 1, 0),
  (290, .iadd, 1, 0, 0), (291, .iaload, 1, 0, 0), (292, .aload_n 0, 1, 0, 0), (293, .iload_n 3, 1, 3, 0), (294, .iconst 2, 1, 2, 0), (295, .iadd, 1, 0, 0),
  (296, .iaload, 1, 0, 0), (297, .invokevirtual 43, 3, 123, 2), (300, .if_icmp .eq 700, 3, 1000, 0), (303, .iconst 0, 1, 0, 0)]
def gc_164_3 : List gc_O := [
  (304, .ireturn, 1, 0, 0), (305, .aload_n 1, 1, 1, 0), (306, .invokevirtual 44, 3, 71, 0), (309, .aload_n 2, 1, 2, 0), (310, .invokevirtual 47, 3, 124, 0), (313, .if_icmp .eq 687, 3, 1000, 0),
  (316, .iconst 0, 1, 0, 0), (317, .ireturn, 1, 0, 0), (318, .aload_n 1, 1, 1, 0), (319, .aload_n 0, 1, 0, 0), (320, .iload_n 3, 1, 3, 0), (321, .iconst 1, 1, 1, 0),
  (322, .iadd, 1, 0, 0), (323, .iaload, 1, 0, 0), (324, .ifCond .eq 7, 3, 331, 0), (327, .iconst 1, 1, 1, 0), (328, .goto 4, 3, 332, 0), (331, .iconst 0, 1, 0, 0),
  (332, .invokevirtual 48, 3, 72, 1), (335, .aload_n 2, 1, 2, 0), (336, .aload_n 0, 1, 0, 0), (337, .iload_n 3, 1, 3, 0), (338, .iconst 1, 1, 1, 0), (339, .iadd, 1, 0, 0),
  (340, .iaload, 1, 0, 0), (341, .ifCond .eq 7, 3, 348, 0), (344, .iconst 1, 1, 1, 0), (345, .goto 4, 3, 349, 0), (348, .iconst 0, 1, 0, 0), (349, .invokevirtual 52, 3, 131, 1),
  (352, .if_icmp .eq 648, 3, 1000, 0), (355, .iconst 0, 1, 0, 0), (356, .ireturn, 1, 0, 0), (357, .aload_n 1, 1, 1, 0), (358, .aload_n 0, 1, 0, 0), (359, .iload_n 3, 1, 3, 0),
  (360, .iconst 1, 1, 1, 0), (361, .iadd, 1, 0, 0), (362, .iaload, 1, 0, 0), (363, .invokevirtual 53, 3, 73, 1)]
def gc_164_4 : List gc_O := [
  (366, .aload_n 2, 1, 2, 0), (367, .aload_n 0, 1, 0, 0), (368, .iload_n 3, 1, 3, 0), (369, .iconst 1, 1, 1, 0), (370, .iadd, 1, 0, 0), (371, .iaload, 1, 0, 0),
  (372, .invokevirtual 56, 3, 132, 1), (375, .if_icmp .eq 625, 3, 1000, 0), (378, .iconst 0, 1, 0, 0), (379, .ireturn, 1, 0, 0), (380, .aload_n 1, 1, 1, 0), (381, .invokevirtual 57, 3, 74, 0),
  (384, .aload_n 2, 1, 2, 0), (385, .invokevirtual 60, 3, 133, 0), (388, .if_icmp .eq 612, 3, 1000, 0), (391, .iconst 0, 1, 0, 0), (392, .ireturn, 1, 0, 0), (393, .aload_n 1, 1, 1, 0),
  (394, .aload_n 0, 1, 0, 0), (395, .iload_n 3, 1, 3, 0), (396, .iconst 1, 1, 1, 0), (397, .iadd, 1, 0, 0), (398, .iaload, 1, 0, 0), (399, .invokevirtual 61, 3, 75, 1),
  (402, .aload_n 2, 1, 2, 0), (403, .aload_n 0, 1, 0, 0), (404, .iload_n 3, 1, 3, 0), (405, .iconst 1, 1, 1, 0), (406, .iadd, 1, 0, 0), (407, .iaload, 1, 0, 0),
  (408, .invokevirtual 64, 3, 136, 1), (411, .if_icmp .eq 589, 3, 1000, 0), (414, .iconst 0, 1, 0, 0), (415, .ireturn, 1, 0, 0), (416, .aload_n 1, 1, 1, 0), (417, .aload_n 0, 1, 0, 0),
  (418, .iload_n 3, 1, 3, 0), (419, .iconst 1, 1, 1, 0), (420, .iadd, 1, 0, 0), (421, .iaload, 1, 0, 0)]
def gc_164_5 : List gc_O := [
  (422, .ifCond .eq 7, 3, 429, 0), (425, .iconst 1, 1, 1, 0), (426, .goto 4, 3, 430, 0), (429, .iconst 0, 1, 0, 0), (430, .invokevirtual 65, 3, 76, 1), (433, .aload_n 2, 1, 2, 0),
  (434, .aload_n 0, 1, 0, 0), (435, .iload_n 3, 1, 3, 0), (436, .iconst 1, 1, 1, 0), (437, .iadd, 1, 0, 0), (438, .iaload, 1, 0, 0), (439, .ifCond .eq 7, 3, 446, 0),
  (442, .iconst 1, 1, 1, 0), (443, .goto 4, 3, 447, 0), (446, .iconst 0, 1, 0, 0), (447, .invokevirtual 68, 3, 138, 1), (450, .if_icmp .eq 550, 3, 1000, 0), (453, .iconst 0, 1, 0, 0),
  (454, .ireturn, 1, 0, 0), (455, .aload_n 1, 1, 1, 0), (456, .invokevirtual 69, 3, 77, 0), (459, .aload_n 2, 1, 2, 0), (460, .invokevirtual 72, 3, 139, 0), (463, .if_icmp .eq 537, 3, 1000, 0),
  (466, .iconst 0, 1, 0, 0), (467, .ireturn, 1, 0, 0), (468, .aload_n 1, 1, 1, 0), (469, .aload_n 0, 1, 0, 0), (470, .iload_n 3, 1, 3, 0), (471, .iconst 1, 1, 1, 0),
  (472, .iadd, 1, 0, 0), (473, .iaload, 1, 0, 0), (474, .aload_n 0, 1, 0, 0), (475, .iload_n 3, 1, 3, 0), (476, .iconst 2, 1, 2, 0), (477, .iadd, 1, 0, 0),
  (478, .iaload, 1, 0, 0), (479, .ifCond .eq 7, 3, 486, 0), (482, .iconst 1, 1, 1, 0), (483, .goto 4, 3, 487, 0)]
def gc_164_6 : List gc_O := [
  (486, .iconst 0, 1, 0, 0), (487, .invokevirtual 73, 3, 78, 2), (490, .aload_n 2, 1, 2, 0), (491, .aload_n 0, 1, 0, 0), (492, .iload_n 3, 1, 3, 0), (493, .iconst 1, 1, 1, 0),
  (494, .iadd, 1, 0, 0), (495, .iaload, 1, 0, 0), (496, .aload_n 0, 1, 0, 0), (497, .iload_n 3, 1, 3, 0), (498, .iconst 2, 1, 2, 0), (499, .iadd, 1, 0, 0),
  (500, .iaload, 1, 0, 0), (501, .ifCond .eq 7, 3, 508, 0), (504, .iconst 1, 1, 1, 0), (505, .goto 4, 3, 509, 0), (508, .iconst 0, 1, 0, 0), (509, .invokevirtual 77, 3, 142, 2),
  (512, .if_icmp .eq 488, 3, 1000, 0), (515, .iconst 0, 1, 0, 0), (516, .ireturn, 1, 0, 0), (517, .aload_n 1, 1, 1, 0), (518, .aload_n 0, 1, 0, 0), (519, .iload_n 3, 1, 3, 0),
  (520, .iconst 1, 1, 1, 0), (521, .iadd, 1, 0, 0), (522, .iaload, 1, 0, 0), (523, .aload_n 0, 1, 0, 0), (524, .iload_n 3, 1, 3, 0), (525, .iconst 2, 1, 2, 0),
  (526, .iadd, 1, 0, 0), (527, .iaload, 1, 0, 0), (528, .invokevirtual 78, 3, 79, 2), (531, .aload_n 2, 1, 2, 0), (532, .aload_n 0, 1, 0, 0), (533, .iload_n 3, 1, 3, 0),
  (534, .iconst 1, 1, 1, 0), (535, .iadd, 1, 0, 0), (536, .iaload, 1, 0, 0), (537, .aload_n 0, 1, 0, 0)]
def gc_164_7 : List gc_O := [
  (538, .iload_n 3, 1, 3, 0), (539, .iconst 2, 1, 2, 0), (540, .iadd, 1, 0, 0), (541, .iaload, 1, 0, 0), (542, .invokevirtual 81, 3, 144, 2), (545, .if_icmp .eq 455, 3, 1000, 0),
  (548, .iconst 0, 1, 0, 0), (549, .ireturn, 1, 0, 0), (550, .aload_n 1, 1, 1, 0), (551, .aload_n 0, 1, 0, 0), (552, .iload_n 3, 1, 3, 0), (553, .iconst 1, 1, 1, 0),
  (554, .iadd, 1, 0, 0), (555, .iaload, 1, 0, 0), (556, .invokevirtual 82, 3, 80, 1), (559, .aload_n 2, 1, 2, 0), (560, .aload_n 0, 1, 0, 0), (561, .iload_n 3, 1, 3, 0),
  (562, .iconst 1, 1, 1, 0), (563, .iadd, 1, 0, 0), (564, .iaload, 1, 0, 0), (565, .invokevirtual 85, 3, 145, 1), (568, .if_icmp .eq 432, 3, 1000, 0), (571, .iconst 0, 1, 0, 0),
  (572, .ireturn, 1, 0, 0), (573, .aload_n 1, 1, 1, 0), (574, .aload_n 0, 1, 0, 0), (575, .iload_n 3, 1, 3, 0), (576, .iconst 1, 1, 1, 0), (577, .iadd, 1, 0, 0),
  (578, .iaload, 1, 0, 0), (579, .invokevirtual 86, 3, 81, 1), (582, .aload_n 2, 1, 2, 0), (583, .aload_n 0, 1, 0, 0), (584, .iload_n 3, 1, 3, 0), (585, .iconst 1, 1, 1, 0),
  (586, .iadd, 1, 0, 0), (587, .iaload, 1, 0, 0), (588, .invokevirtual 89, 3, 146, 1), (591, .if_icmp .eq 409, 3, 1000, 0)]
def gc_164_8 : List gc_O := [
  (594, .iconst 0, 1, 0, 0), (595, .ireturn, 1, 0, 0), (596, .aload_n 1, 1, 1, 0), (597, .aload_n 0, 1, 0, 0), (598, .iload_n 3, 1, 3, 0), (599, .iconst 1, 1, 1, 0),
  (600, .iadd, 1, 0, 0), (601, .iaload, 1, 0, 0), (602, .aload_n 0, 1, 0, 0), (603, .iload_n 3, 1, 3, 0), (604, .iconst 2, 1, 2, 0), (605, .iadd, 1, 0, 0),
  (606, .iaload, 1, 0, 0), (607, .aload_n 0, 1, 0, 0), (608, .iload_n 3, 1, 3, 0), (609, .iconst 3, 1, 3, 0), (610, .iadd, 1, 0, 0), (611, .iaload, 1, 0, 0),
  (612, .ifCond .eq 7, 3, 619, 0), (615, .iconst 1, 1, 1, 0), (616, .goto 4, 3, 620, 0), (619, .iconst 0, 1, 0, 0), (620, .invokevirtual 90, 3, 82, 3), (623, .aload_n 2, 1, 2, 0),
  (624, .aload_n 0, 1, 0, 0), (625, .iload_n 3, 1, 3, 0), (626, .iconst 1, 1, 1, 0), (627, .iadd, 1, 0, 0), (628, .iaload, 1, 0, 0), (629, .aload_n 0, 1, 0, 0),
  (630, .iload_n 3, 1, 3, 0), (631, .iconst 2, 1, 2, 0), (632, .iadd, 1, 0, 0), (633, .iaload, 1, 0, 0), (634, .aload_n 0, 1, 0, 0), (635, .iload_n 3, 1, 3, 0),
  (636, .iconst 3, 1, 3, 0), (637, .iadd, 1, 0, 0), (638, .iaload, 1, 0, 0), (639, .ifCond .eq 7, 3, 646, 0)]
def gc_164_9 : List gc_O := [
  (642, .iconst 1, 1, 1, 0), (643, .goto 4, 3, 647, 0), (646, .iconst 0, 1, 0, 0), (647, .invokevirtual 94, 3, 147, 3), (650, .if_icmp .eq 350, 3, 1000, 0), (653, .iconst 0, 1, 0, 0),
  (654, .ireturn, 1, 0, 0), (655, .aload_n 1, 1, 1, 0), (656, .invokevirtual 95, 3, 83, 0), (659, .aload_n 2, 1, 2, 0), (660, .invokevirtual 98, 3, 148, 0), (663, .if_icmp .eq 337, 3, 1000, 0),
  (666, .iconst 0, 1, 0, 0), (667, .ireturn, 1, 0, 0), (668, .aload_n 1, 1, 1, 0), (669, .aload_n 0, 1, 0, 0), (670, .iload_n 3, 1, 3, 0), (671, .iconst 1, 1, 1, 0),
  (672, .iadd, 1, 0, 0), (673, .iaload, 1, 0, 0), (674, .invokevirtual 99, 3, 84, 1), (677, .aload_n 2, 1, 2, 0), (678, .aload_n 0, 1, 0, 0), (679, .iload_n 3, 1, 3, 0),
  (680, .iconst 1, 1, 1, 0), (681, .iadd, 1, 0, 0), (682, .iaload, 1, 0, 0), (683, .invokevirtual 102, 3, 150, 1), (686, .if_icmp .eq 314, 3, 1000, 0), (689, .iconst 0, 1, 0, 0),
  (690, .ireturn, 1, 0, 0), (691, .aload_n 1, 1, 1, 0), (692, .aload_n 0, 1, 0, 0), (693, .iload_n 3, 1, 3, 0), (694, .iconst 1, 1, 1, 0), (695, .iadd, 1, 0, 0),
  (696, .iaload, 1, 0, 0), (697, .aload_n 0, 1, 0, 0), (698, .iload_n 3, 1, 3, 0), (699, .iconst 2, 1, 2, 0)]
def gc_164_10 : List gc_O := [
  (700, .iadd, 1, 0, 0), (701, .iaload, 1, 0, 0), (702, .aload_n 0, 1, 0, 0), (703, .iload_n 3, 1, 3, 0), (704, .iconst 3, 1, 3, 0), (705, .iadd, 1, 0, 0),
  (706, .iaload, 1, 0, 0), (707, .ifCond .eq 7, 3, 714, 0), (710, .iconst 1, 1, 1, 0), (711, .goto 4, 3, 715, 0), (714, .iconst 0, 1, 0, 0), (715, .invokevirtual 103, 3, 85, 3),
  (718, .aload_n 2, 1, 2, 0), (719, .aload_n 0, 1, 0, 0), (720, .iload_n 3, 1, 3, 0), (721, .iconst 1, 1, 1, 0), (722, .iadd, 1, 0, 0), (723, .iaload, 1, 0, 0),
  (724, .aload_n 0, 1, 0, 0), (725, .iload_n 3, 1, 3, 0), (726, .iconst 2, 1, 2, 0), (727, .iadd, 1, 0, 0), (728, .iaload, 1, 0, 0), (729, .aload_n 0, 1, 0, 0),
  (730, .iload_n 3, 1, 3, 0), (731, .iconst 3, 1, 3, 0), (732, .iadd, 1, 0, 0), (733, .iaload, 1, 0, 0), (734, .ifCond .eq 7, 3, 741, 0), (737, .iconst 1, 1, 1, 0),
  (738, .goto 4, 3, 742, 0), (741, .iconst 0, 1, 0, 0), (742, .invokevirtual 107, 3, 152, 3), (745, .lcmp, 1, 0, 0), (746, .ifCond .eq 254, 3, 1000, 0), (749, .iconst 0, 1, 0, 0),
  (750, .ireturn, 1, 0, 0), (751, .aload_n 1, 1, 1, 0), (752, .aload_n 0, 1, 0, 0), (753, .iload_n 3, 1, 3, 0)]
def gc_164_11 : List gc_O := [
  (754, .iconst 1, 1, 1, 0), (755, .iadd, 1, 0, 0), (756, .iaload, 1, 0, 0), (757, .aload_n 0, 1, 0, 0), (758, .iload_n 3, 1, 3, 0), (759, .iconst 2, 1, 2, 0),
  (760, .iadd, 1, 0, 0), (761, .iaload, 1, 0, 0), (762, .aload_n 0, 1, 0, 0), (763, .iload_n 3, 1, 3, 0), (764, .iconst 3, 1, 3, 0), (765, .iadd, 1, 0, 0),
  (766, .iaload, 1, 0, 0), (767, .aload_n 0, 1, 0, 0), (768, .iload_n 3, 1, 3, 0), (769, .iconst 4, 1, 4, 0), (770, .iadd, 1, 0, 0), (771, .iaload, 1, 0, 0),
  (772, .ifCond .eq 7, 3, 779, 0), (775, .iconst 1, 1, 1, 0), (776, .goto 4, 3, 780, 0), (779, .iconst 0, 1, 0, 0), (780, .invokevirtual 108, 3, 86, 4), (783, .aload_n 2, 1, 2, 0),
  (784, .aload_n 0, 1, 0, 0), (785, .iload_n 3, 1, 3, 0), (786, .iconst 1, 1, 1, 0), (787, .iadd, 1, 0, 0), (788, .iaload, 1, 0, 0), (789, .aload_n 0, 1, 0, 0),
  (790, .iload_n 3, 1, 3, 0), (791, .iconst 2, 1, 2, 0), (792, .iadd, 1, 0, 0), (793, .iaload, 1, 0, 0), (794, .aload_n 0, 1, 0, 0), (795, .iload_n 3, 1, 3, 0),
  (796, .iconst 3, 1, 3, 0), (797, .iadd, 1, 0, 0), (798, .iaload, 1, 0, 0), (799, .aload_n 0, 1, 0, 0)]
def gc_164_12 : List gc_O := [
  (800, .iload_n 3, 1, 3, 0), (801, .iconst 4, 1, 4, 0), (802, .iadd, 1, 0, 0), (803, .iaload, 1, 0, 0), (804, .ifCond .eq 7, 3, 811, 0), (807, .iconst 1, 1, 1, 0),
  (808, .goto 4, 3, 812, 0), (811, .iconst 0, 1, 0, 0), (812, .invokevirtual 112, 3, 153, 4), (815, .lcmp, 1, 0, 0), (816, .ifCond .eq 184, 3, 1000, 0), (819, .iconst 0, 1, 0, 0),
  (820, .ireturn, 1, 0, 0), (821, .aload_n 1, 1, 1, 0), (822, .aload_n 0, 1, 0, 0), (823, .iload_n 3, 1, 3, 0), (824, .iconst 1, 1, 1, 0), (825, .iadd, 1, 0, 0),
  (826, .iaload, 1, 0, 0), (827, .aload_n 0, 1, 0, 0), (828, .iload_n 3, 1, 3, 0), (829, .iconst 2, 1, 2, 0), (830, .iadd, 1, 0, 0), (831, .iaload, 1, 0, 0),
  (832, .invokevirtual 113, 3, 87, 2), (835, .aload_n 2, 1, 2, 0), (836, .aload_n 0, 1, 0, 0), (837, .iload_n 3, 1, 3, 0), (838, .iconst 1, 1, 1, 0), (839, .iadd, 1, 0, 0),
  (840, .iaload, 1, 0, 0), (841, .aload_n 0, 1, 0, 0), (842, .iload_n 3, 1, 3, 0), (843, .iconst 2, 1, 2, 0), (844, .iadd, 1, 0, 0), (845, .iaload, 1, 0, 0),
  (846, .invokevirtual 116, 3, 157, 2), (849, .if_icmp .eq 151, 3, 1000, 0), (852, .iconst 0, 1, 0, 0), (853, .ireturn, 1, 0, 0)]
def gc_164_13 : List gc_O := [
  (854, .aload_n 1, 1, 1, 0), (855, .aload_n 0, 1, 0, 0), (856, .iload_n 3, 1, 3, 0), (857, .iconst 1, 1, 1, 0), (858, .iadd, 1, 0, 0), (859, .iaload, 1, 0, 0),
  (860, .i2l, 1, 0, 0), (861, .bipush 32, 2, 32, 0), (863, .lshl, 1, 0, 0), (864, .aload_n 0, 1, 0, 0), (865, .iload_n 3, 1, 3, 0), (866, .iconst 2, 1, 2, 0),
  (867, .iadd, 1, 0, 0), (868, .iaload, 1, 0, 0), (869, .i2l, 1, 0, 0), (870, .ldc2_w 117, 3, 4294967295, 0), (873, .land, 1, 0, 0), (874, .lor, 1, 0, 0),
  (875, .invokevirtual 119, 3, 88, 1), (878, .aload_n 2, 1, 2, 0), (879, .aload_n 0, 1, 0, 0), (880, .iload_n 3, 1, 3, 0), (881, .iconst 1, 1, 1, 0), (882, .iadd, 1, 0, 0),
  (883, .iaload, 1, 0, 0), (884, .i2l, 1, 0, 0), (885, .bipush 32, 2, 32, 0), (887, .lshl, 1, 0, 0), (888, .aload_n 0, 1, 0, 0), (889, .iload_n 3, 1, 3, 0),
  (890, .iconst 2, 1, 2, 0), (891, .iadd, 1, 0, 0), (892, .iaload, 1, 0, 0), (893, .i2l, 1, 0, 0), (894, .ldc2_w 117, 3, 4294967295, 0), (897, .land, 1, 0, 0),
  (898, .lor, 1, 0, 0), (899, .invokevirtual 123, 3, 158, 1), (902, .lcmp, 1, 0, 0), (903, .ifCond .eq 97, 3, 1000, 0)]
def gc_164_14 : List gc_O := [
  (906, .iconst 0, 1, 0, 0), (907, .ireturn, 1, 0, 0), (908, .aload_n 1, 1, 1, 0), (909, .aload_n 0, 1, 0, 0), (910, .iload_n 3, 1, 3, 0), (911, .iconst 1, 1, 1, 0),
  (912, .iadd, 1, 0, 0), (913, .iaload, 1, 0, 0), (914, .invokevirtual 124, 3, 89, 1), (917, .aload_n 2, 1, 2, 0), (918, .aload_n 0, 1, 0, 0), (919, .iload_n 3, 1, 3, 0),
  (920, .iconst 1, 1, 1, 0), (921, .iadd, 1, 0, 0), (922, .iaload, 1, 0, 0), (923, .invokevirtual 127, 3, 159, 1), (926, .if_icmp .eq 74, 3, 1000, 0), (929, .iconst 0, 1, 0, 0),
  (930, .ireturn, 1, 0, 0), (931, .aload_n 1, 1, 1, 0), (932, .aload_n 0, 1, 0, 0), (933, .iload_n 3, 1, 3, 0), (934, .iconst 1, 1, 1, 0), (935, .iadd, 1, 0, 0),
  (936, .iaload, 1, 0, 0), (937, .invokevirtual 128, 3, 90, 1), (940, .aload_n 2, 1, 2, 0), (941, .aload_n 0, 1, 0, 0), (942, .iload_n 3, 1, 3, 0), (943, .iconst 1, 1, 1, 0),
  (944, .iadd, 1, 0, 0), (945, .iaload, 1, 0, 0), (946, .invokevirtual 131, 3, 160, 1), (949, .if_icmp .eq 51, 3, 1000, 0), (952, .iconst 0, 1, 0, 0), (953, .ireturn, 1, 0, 0),
  (954, .aload_n 1, 1, 1, 0), (955, .aload_n 0, 1, 0, 0), (956, .iload_n 3, 1, 3, 0), (957, .iconst 1, 1, 1, 0)]
def gc_164_15 : List gc_O := [
  (958, .iadd, 1, 0, 0), (959, .iaload, 1, 0, 0), (960, .invokevirtual 132, 3, 91, 1), (963, .aload_n 2, 1, 2, 0), (964, .aload_n 0, 1, 0, 0), (965, .iload_n 3, 1, 3, 0),
  (966, .iconst 1, 1, 1, 0), (967, .iadd, 1, 0, 0), (968, .iaload, 1, 0, 0), (969, .invokevirtual 135, 3, 161, 1), (972, .if_icmp .eq 28, 3, 1000, 0), (975, .iconst 0, 1, 0, 0),
  (976, .ireturn, 1, 0, 0), (977, .aload_n 1, 1, 1, 0), (978, .aload_n 0, 1, 0, 0), (979, .iload_n 3, 1, 3, 0), (980, .iconst 1, 1, 1, 0), (981, .iadd, 1, 0, 0),
  (982, .iaload, 1, 0, 0), (983, .invokevirtual 136, 3, 92, 1), (986, .aload_n 2, 1, 2, 0), (987, .aload_n 0, 1, 0, 0), (988, .iload_n 3, 1, 3, 0), (989, .iconst 1, 1, 1, 0),
  (990, .iadd, 1, 0, 0), (991, .iaload, 1, 0, 0), (992, .invokevirtual 139, 3, 162, 1), (995, .if_icmp .eq 5, 3, 1000, 0), (998, .iconst 0, 1, 0, 0), (999, .ireturn, 1, 0, 0),
  (1000, .iinc 3 5, 3, 5, 0), (1003, .goto (-985), 3, 18, 0), (1006, .iconst 1, 1, 1, 0), (1007, .ireturn, 1, 0, 0)]
def gc_164 : List gc_O := gc_164_0 ++ (gc_164_1 ++ (gc_164_2 ++ (gc_164_3 ++ (gc_164_4 ++ (gc_164_5 ++ (gc_164_6 ++ (gc_164_7 ++ (gc_164_8 ++ (gc_164_9 ++ (gc_164_10 ++ (gc_164_11 ++ (gc_164_12 ++ (gc_164_13 ++ (gc_164_14 ++ (gc_164_15)))))))))))))))
def gc_l : List (List gc_O) := [gc_0, gc_1, gc_2, gc_3, gc_4, gc_5, gc_6, gc_7, gc_8, gc_9, gc_10, gc_11, gc_12, gc_13, gc_14, gc_15, gc_16, gc_17, gc_18, gc_19, gc_20, gc_21, gc_22, gc_23, gc_24, gc_25, gc_26, gc_27, gc_28, gc_29, gc_30, gc_31, gc_32, gc_33, gc_34, gc_35, gc_36, gc_37, gc_38, gc_39, gc_40, gc_41, gc_42, gc_43, gc_44, gc_45, gc_46, gc_47, gc_48, gc_49, gc_50, gc_51, gc_52, gc_53, gc_54, gc_55, gc_56, gc_57, gc_58, gc_59, gc_60, gc_61, gc_62, gc_63, gc_64, gc_65, gc_66, gc_67, gc_68, gc_69, gc_70, gc_71, gc_72, gc_73, gc_74, gc_75, gc_76, gc_77, gc_78, gc_79, gc_80, gc_81, gc_82, gc_83, gc_84, gc_85, gc_86, gc_87, gc_88, gc_89, gc_90, gc_91, gc_92, gc_93, gc_94, gc_95, gc_96, gc_97, gc_98, gc_99, gc_100, gc_101, gc_102, gc_103, gc_104, gc_105, gc_106, gc_107, gc_108, gc_109, gc_110, gc_111, gc_112, gc_113, gc_114, gc_115, gc_116, gc_117, gc_118, gc_119, gc_120, gc_121, gc_122, gc_123, gc_124, gc_125, gc_126, gc_127, gc_128, gc_129, gc_130, gc_131, gc_132, gc_133, gc_134, gc_135, gc_136, gc_137, gc_138, gc_139, gc_140, gc_141, gc_142, gc_143, gc_144, gc_145, gc_146, gc_147, gc_148, gc_149, gc_150, gc_151, gc_152, gc_153, gc_154, gc_155, gc_156, gc_157, gc_158, gc_159, gc_160, gc_161, gc_162, gc_163, gc_164]
def gc_C (i : Nat) : List gc_O := gc_l.getD i []

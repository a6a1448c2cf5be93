/** Part 1 of the document, THE MACHINE, and "All numbers are ints and wrap", sentence by sentence. */
public final class Part1Machine {
  private static final int LEAST = Wire.LEAST;
  private static final int MOST = Wire.MOST;

  /** Code without LD, ST and jumps comes in with TRUE for its derivation; it ends as 1 with this. */
  private static void gives(String what, int result, byte[]... code) {
    CodeHarbour x = Ledger.loads(what, 0, -1, Wire.code(0, code), 32);
    Ledger.due(what + ": run()", x.run(code.length), 1);
    Ledger.due(what + ": result()", x.result(), result);
    Ledger.due(what + ": steps()", x.steps(), code.length);
    Ledger.due(what + ": watch()", x.watch(code.length), 1);
    Ledger.due(what + ": watched result()", x.result(), result);
  }

  private static void cells() {
    Ledger.sentence("Part 1", "256 CELLS, all 0 at first");
    CodeHarbour x = new CodeHarbour();
    for (int i = 0; i < 256; i++) {
      Ledger.due("cell " + i, x.peek(i), 0);
    }
    x.poke(0, 5);
    x.poke(255, 6);
    x.poke(-1, 7);
    x.poke(256, 8);
    Ledger.due("cell 0", x.peek(0), 5);
    Ledger.due("cell 255", x.peek(255), 6);
    Ledger.due("cell -1", x.peek(-1), 0);
    Ledger.due("cell 256", x.peek(256), 0);
  }

  private static void registers() {
    Ledger.sentence("Part 1", "and 8 registers");
    for (int i = 0; i < 8; i++) {
      byte[][] code = new byte[10][];
      for (int k = 0; k < 8; k++) {
        code[k] = Wire.li(k, 100 + k);
      }
      code[8] = Wire.mov(0, i);
      code[9] = Wire.HALT;
      gives("register " + i, 100 + i, code);
    }
    Ledger.loads("register 8", 3, 5, Wire.code(0, Wire.li(8, 1), Wire.HALT), 32);
  }

  private static final int MAY = 0;
  private static final int BELOW = -1;
  private static final int BEYOND = 1;

  /** The first RECKON shows that a cell is not below its range, the second one that it is not beyond. */
  private static int reckonAt(int where, int instructions) {
    return where == MAY ? -1 : 5 + 7 * instructions + (where == BELOW ? 2 : 3);
  }

  private static void reads(CodeHarbour x, int cell, int where) {
    Ledger.loads(x, "LD " + cell, where == MAY ? 0 : 8, reckonAt(where, 2), Wire.code(0, Wire.ld(0, 1, cell),
        Wire.HALT), 33, 33, 36, 36, 35, 32);
    Ledger.due("watch() of LD " + cell, x.watch(9), where == MAY ? 1 : 4);
    Ledger.due("result() of LD " + cell, x.result(), where == MAY ? x.peek(cell) : cell);
    Ledger.due("steps() of LD " + cell, x.steps(), where == MAY ? 2 : 0);
  }

  private static void writes(CodeHarbour x, int cell, int where) {
    boolean isCell = cell >= 0 && cell < 256;
    x.poke(cell, 3);
    Ledger.loads(x, "ST " + cell, where == MAY ? 0 : 8, reckonAt(where, 3), Wire.code(0, Wire.li(2, 7),
        Wire.st(2, 1, cell), Wire.HALT), 33, 33, 36, 36, 32);
    Ledger.due("watch() of ST " + cell, x.watch(9), where == MAY ? 1 : 5);
    Ledger.due("result() of ST " + cell, x.result(), where == MAY ? 0 : cell);
    Ledger.due("steps() of ST " + cell, x.steps(), where == MAY ? 3 : 1);
    Ledger.due("cell " + cell, x.peek(cell), where == MAY ? 7 : isCell ? 3 : 0);
  }

  private static void policy() {
    Ledger.sentence("Part 1", "cells rlo .. rhi - 1 may be read, wlo .. whi - 1 written");
    CodeHarbour x = new CodeHarbour();
    for (int i = 0; i < 256; i++) {
      x.poke(i, 1000 + i);
    }
    x.policy(10, 20, 12, 18);
    reads(x, 9, BELOW);
    reads(x, 10, MAY);
    reads(x, 19, MAY);
    reads(x, 20, BEYOND);
    writes(x, 10, BELOW);
    writes(x, 11, BELOW);
    writes(x, 12, MAY);
    writes(x, 17, MAY);
    writes(x, 18, BEYOND);
    writes(x, 19, BEYOND);
    Ledger.sentence("Part 1", "0 <= rlo <= wlo <= whi <= rhi <= 256: empty ranges");
    CodeHarbour y = new CodeHarbour();
    y.policy(5, 5, 5, 5);
    reads(y, 4, BELOW);
    reads(y, 5, BEYOND);
    writes(y, 4, BELOW);
    writes(y, 5, BEYOND);
    y.policy(3, 9, 6, 6);
    reads(y, 2, BELOW);
    reads(y, 3, MAY);
    reads(y, 8, MAY);
    reads(y, 9, BEYOND);
    writes(y, 5, BELOW);
    writes(y, 6, BEYOND);
    y.policy(256, 256, 256, 256);
    reads(y, 255, BELOW);
    reads(y, 256, BEYOND);
    writes(y, 255, BELOW);
    writes(y, 256, BEYOND);
    y.policy(0, 0, 0, 0);
    reads(y, 0, BEYOND);
    writes(y, 0, BEYOND);
    Ledger.sentence("Part 1", "(at first 0, 256, 0, 256)");
    CodeHarbour z = new CodeHarbour();
    reads(z, -1, BELOW);
    reads(z, 0, MAY);
    reads(z, 255, MAY);
    reads(z, 256, BEYOND);
    writes(z, -1, BELOW);
    writes(z, 0, MAY);
    writes(z, 255, MAY);
    writes(z, 256, BEYOND);
  }

  private static void plainOps() {
    Ledger.sentence("Part 1", "0 LI a becomes n");
    for (int n : new int[] {0, 1, -1, 255, 256, 65536, 16777216, MOST, LEAST}) {
      gives("LI " + n, n, Wire.li(0, n), Wire.HALT);
    }
    Ledger.sentence("Part 1", "1 MOV a becomes b");
    gives("MOV", 5, Wire.li(3, 5), Wire.li(0, 4), Wire.mov(0, 3), Wire.HALT);
    gives("MOV leaves b", 5, Wire.li(0, 5), Wire.mov(3, 0), Wire.HALT);
    gives("MOV to itself", 5, Wire.li(0, 5), Wire.mov(0, 0), Wire.HALT);
    Ledger.sentence("Part 1", "2 ADD a becomes b + c. 3 SUB b - c. 4 MUL b * c");
    int[] results = {26, 16, 105};
    for (int op = 2; op <= 4; op++) {
      gives("op " + op, results[op - 2], Wire.li(6, 21), Wire.li(7, 5), Wire.ins(op, 0, 6, 7), Wire.HALT);
      gives("op " + op + " into b", results[op - 2], Wire.li(0, 21), Wire.li(7, 5), Wire.ins(op, 0, 0, 7),
          Wire.HALT);
      gives("op " + op + " into c", results[op - 2], Wire.li(6, 21), Wire.li(0, 5), Wire.ins(op, 0, 6, 0),
          Wire.HALT);
    }
    Ledger.sentence("Part 1", "5 ADDI b + n");
    gives("ADDI", 9, Wire.li(4, 5), Wire.addi(0, 4, 4), Wire.HALT);
    gives("ADDI below 0", -2, Wire.li(4, 5), Wire.addi(0, 4, -7), Wire.HALT);
    Ledger.sentence("Part 1", "15 MARK: nothing");
    CodeHarbour x = Ledger.loads("a MARK", 0, -1, Wire.code(1, Wire.li(0, 3), Wire.mark(0), Wire.HALT),
        Wire.TRUE, 32, Wire.PART_OF_TRUE);
    Ledger.due("run()", x.run(3), 1);
    Ledger.due("result()", x.result(), 3);
  }

  private static void wraps() {
    Ledger.sentence("Terms", "All numbers are ints and wrap: the machine");
    gives("ADD", LEAST, Wire.li(1, MOST), Wire.li(2, 1), Wire.ins(2, 0, 1, 2), Wire.HALT);
    gives("ADD of the least", 0, Wire.li(1, LEAST), Wire.ins(2, 0, 1, 1), Wire.HALT);
    gives("SUB", MOST, Wire.li(1, LEAST), Wire.li(2, 1), Wire.ins(3, 0, 1, 2), Wire.HALT);
    gives("SUB of the least", LEAST, Wire.li(1, LEAST), Wire.ins(3, 0, 2, 1), Wire.HALT);
    gives("MUL", -2, Wire.li(1, MOST), Wire.li(2, 2), Wire.ins(4, 0, 1, 2), Wire.HALT);
    gives("MUL to 0", 0, Wire.li(1, 65536), Wire.ins(4, 0, 1, 1), Wire.HALT);
    gives("MUL of the least", LEAST, Wire.li(1, LEAST), Wire.li(2, -1), Wire.ins(4, 0, 1, 2), Wire.HALT);
    gives("ADDI", LEAST, Wire.li(1, MOST), Wire.addi(0, 1, 1), Wire.HALT);
    gives("ADDI below", MOST, Wire.li(1, LEAST), Wire.addi(0, 1, -1), Wire.HALT);
    CodeHarbour x = new CodeHarbour();
    x.poke(5, 77);
    // MOST + (LEAST + 6) is 5 in either reckoning; LEAST + LEAST + 5 is 5 by wrapping alone.
    byte[] cell = {33, 33, 36, 36, 35, 32};
    Ledger.loads(x, "LD wraps", 0, -1, Wire.code(0, Wire.li(1, LEAST), Wire.ld(0, 1, LEAST + 5), Wire.HALT),
        cell);
    Ledger.due("run()", x.run(9), 1);
    Ledger.due("what LD read", x.result(), 77);
    byte[] written = {33, 33, 36, 36, 32};
    Ledger.loads(x, "ST wraps", 0, -1, Wire.code(0, Wire.li(1, LEAST), Wire.st(1, 1, LEAST + 6), Wire.HALT),
        written);
    Ledger.due("run()", x.run(9), 1);
    Ledger.due("what ST wrote", x.peek(6), LEAST);
    Ledger.holds(x, Wire.li(1, MOST), Wire.ld(0, 1, 1), Wire.HALT);
    Ledger.due("watch()", x.watch(9), 4);
    Ledger.due("the cell that LD wraps to", x.result(), LEAST);
    Ledger.holds(x, Wire.li(1, LEAST), Wire.st(0, 1, -1), Wire.HALT);
    Ledger.due("watch()", x.watch(9), 5);
    Ledger.due("the cell that ST wraps to", x.result(), MOST);
  }

  private static void cellOps() {
    Ledger.sentence("Part 1", "6 LD a becomes the cell b + n. 7 ST the cell b + n becomes a");
    CodeHarbour x = new CodeHarbour();
    x.poke(30, 5);
    x.poke(40, 6);
    x.poke(10, 7);
    Ledger.loads(x, "LD", 0, -1, Wire.code(0, Wire.li(1, 30), Wire.li(0, 20), Wire.ld(0, 1, 10), Wire.HALT),
        33, 33, 36, 36, 35, 32);
    x.run(9);
    Ledger.due("LD of 30 + 10", x.result(), 6);
    Ledger.loads(x, "LD into b", 0, -1, Wire.code(0, Wire.li(0, 40), Wire.ld(0, 0, -10), Wire.HALT), 33, 33,
        36, 36, 35, 32);
    x.run(9);
    Ledger.due("LD of 40 - 10", x.result(), 5);
    Ledger.loads(x, "ST", 0, -1, Wire.code(0, Wire.li(1, 30), Wire.li(2, 99), Wire.st(2, 1, 11), Wire.HALT),
        33, 33, 36, 36, 32);
    x.run(9);
    Ledger.due("ST to 30 + 11", x.peek(41), 99);
    Ledger.due("ST leaves its neighbours", x.peek(40) + x.peek(42) + x.peek(30), 11);
    Ledger.loads(x, "ST of b", 0, -1, Wire.code(0, Wire.li(1, 50), Wire.st(1, 1, -1), Wire.HALT), 33, 33, 36,
        36, 32);
    x.run(9);
    Ledger.due("ST of 50 to 49", x.peek(49), 50);
  }

  private static boolean jumps(int op, int x, int y) {
    return switch (op) {
      case 9 -> (long) x < y;
      case 10 -> (long) x <= y;
      case 11 -> x == y;
      default -> x != y;
    };
  }

  private static void jumpOps() {
    Ledger.sentence("Part 1", "8 JMP to place n");
    CodeHarbour x = Ledger.loads("JMP", 0, -1, Wire.code(1, Wire.jmp(3), Wire.trap(7), Wire.mark(0),
        Wire.mark(0), Wire.HALT), Wire.TRUE, 32, Wire.times(8, 35), 34, 32, Wire.PART_OF_TRUE);
    Ledger.due("run()", x.run(3), 1);
    Ledger.due("steps()", x.steps(), 3);
    x = Ledger.loads("JMP back", 0, -1, Wire.code(1, Wire.mark(0), Wire.jmp(0)), Wire.TRUE, 32,
        Wire.PART_OF_TRUE);
    Ledger.due("run()", x.run(20000), 3);
    Ledger.due("steps()", x.steps(), 20000);
    Ledger.sentence("Part 1", "9 JLT to n if a < b. 10 JLE if a <= b. 11 JEQ if a = b. 12 JNE if a != b");
    int[] some = {LEAST, -1, 0, 1, MOST};
    for (int op = 9; op <= 12; op++) {
      for (int a : some) {
        for (int b : some) {
          CodeHarbour y = Ledger.loads("a jump", 0, -1, Wire.code(1, Wire.li(3, a), Wire.li(4, b),
              Wire.ins(op, 3, 4, 4), Wire.trap(9), Wire.mark(0), Wire.trap(8)), Wire.TRUE, 33, 34, 32, 34, 32,
              Wire.PART_OF_TRUE);
          Ledger.due("run()", y.run(9), 2);
          Ledger.due("op " + op + " of " + a + " and " + b, y.result(), jumps(op, a, b) ? 8 : 9);
          Ledger.due("its steps()", y.steps(), jumps(op, a, b) ? 5 : 4);
        }
      }
    }
  }

  private static void runs() {
    Ledger.sentence("Part 1", "A RUN begins at place 0 with all registers 0");
    byte[][] code = new byte[16][];
    for (int i = 0; i < 8; i++) {
      code[i] = Wire.addi(i, i, 1);
      code[8 + i] = i == 7 ? Wire.HALT : Wire.ins(2, 0, 0, i + 1);
    }
    CodeHarbour x = Ledger.loads("a sum of all registers", 0, -1, Wire.code(0, code), 32);
    for (int i = 0; i < 3; i++) {
      Ledger.due("run()", x.run(16), 1);
      Ledger.due("result()", x.result(), 8);
      Ledger.due("a run that is cut off", x.run(11), 3);
      Ledger.due("watch()", x.watch(16), 1);
      Ledger.due("result()", x.result(), 8);
    }
    Ledger.sentence("Part 1", "It ends as 1: behind a HALT, with register 0");
    gives("register 0", 4, Wire.li(0, 4), Wire.li(1, 5), Wire.HALT);
    Ledger.sentence("Part 1", "2: behind a TRAP, with n");
    for (int n : new int[] {1, 2, 98, 99}) {
      x = Ledger.loads("TRAP", 0, -1, Wire.code(0, Wire.li(0, 4), Wire.trap(n)), 32);
      Ledger.due("run()", x.run(2), 2);
      Ledger.due("result()", x.result(), n);
      Ledger.due("steps()", x.steps(), 2);
      Ledger.due("watch()", x.watch(2), 2);
      Ledger.due("watched result()", x.result(), n);
      Ledger.due("run() ahead of it", x.run(1), 3);
    }
    Ledger.sentence("Part 1", "3: FUEL steps were done and none of them ended it");
    x = Ledger.loads("three steps", 0, -1, Wire.code(0, Wire.li(0, 4), Wire.li(0, 5), Wire.HALT), 32);
    for (int fuel = 0; fuel < 6; fuel++) {
      Ledger.due("run(" + fuel + ")", x.run(fuel), fuel < 3 ? 3 : 1);
      Ledger.due("result()", x.result(), fuel < 3 ? 0 : 5);
      Ledger.due("steps()", x.steps(), Math.min(fuel, 3));
    }
    Ledger.sentence("Part 1", "Each instruction is a STEP");
    x = Ledger.loads("each kind", 0, -1, Wire.code(1, Wire.li(0, 4), Wire.mov(1, 0), Wire.ins(2, 1, 0, 0),
        Wire.ins(3, 1, 0, 0), Wire.ins(4, 1, 0, 0), Wire.addi(1, 1, 1), Wire.ld(2, 0, 0), Wire.st(2, 0, 0),
        Wire.ins(9, 0, 0, 14), Wire.ins(10, 0, 3, 14), Wire.ins(11, 0, 3, 14), Wire.ins(12, 0, 0, 14),
        Wire.jmp(14), Wire.HALT, Wire.mark(0), Wire.HALT), Wire.TRUE, 33, 33, 36, 36, 35, 33, 33, 36, 36,
        Wire.times(4, 33, 34, 32, 34), 32, Wire.PART_OF_TRUE);
    for (int fuel = 0; fuel < 17; fuel++) {
      Ledger.due("run(" + fuel + ")", x.run(fuel), fuel < 15 ? 3 : 1);
      Ledger.due("steps()", x.steps(), Math.min(fuel, 15));
      Ledger.due("watch(" + fuel + ")", x.watch(fuel), fuel < 15 ? 3 : 1);
      Ledger.due("steps()", x.steps(), Math.min(fuel, 15));
    }
  }

  public static void main(String[] args) {
    cells();
    registers();
    policy();
    plainOps();
    wraps();
    cellOps();
    jumpOps();
    runs();
    Ledger.close();
  }
}

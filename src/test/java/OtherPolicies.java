/**
 * Policies that are others than the one at first: their cells in an OBLIGATION, in what watch() ends
 * as 4 or 5, and in a source's cells from wlo on; and one policy behind another.
 */
public final class OtherPolicies {
  // rlo, rhi, wlo, whi
  private static final int[][] POLICIES = {{0, 256, 0, 256}, {0, 256, 100, 200}, {10, 20, 12, 18}, {5, 5, 5, 5},
      {0, 0, 0, 0}, {256, 256, 256, 256}, {0, 256, 256, 256}, {0, 256, 0, 0}, {255, 256, 255, 256}, {0, 1, 0, 1},
      {1, 255, 2, 254}, {64, 192, 64, 192}};
  // Cells are poked with this and their own number.
  private static final int FIRST = 1000;

  private static String name(int[] p) {
    return "policy(" + p[0] + ", " + p[1] + ", " + p[2] + ", " + p[3] + ")";
  }

  private static void set(CodeHarbour x, int[] p) {
    Ledger.due(name(p), x.policy(p[0], p[1], p[2], p[3]), 0);
  }

  private static boolean isCell(int cell) {
    return cell >= 0 && cell < 256;
  }

  /** Code with a LD or a ST of one cell, which is register 3, 7, and what is left. */
  private static void touches(CodeHarbour x, int[] p, int op, int cell) {
    String what = name(p) + (op == 6 ? " LD " : " ST ") + cell;
    int lo = op == 6 ? p[0] : p[2];
    int hi = op == 6 ? p[1] : p[3];
    boolean may = lo <= cell && cell < hi;
    // BOTH, BOTH and the two RECKONs stand behind 5 bytes and three instructions.
    int place = may ? -1 : cell < lo ? 28 : 29;
    byte[] code = Wire.code(0, Wire.li(3, 7), Wire.ins(op, 3, 3, cell - 7), Wire.HALT);
    Ledger.loads(x, what, may ? 0 : 8, place, code, 33, 33, 36, 36, op == 6 ? Wire.join(35, 32) : Wire.TRUE_SHOWN);
    Ledger.due(what + ": told(1)", x.told(1), op == 6 ? 14 : 13);
    Ledger.due(what + ": poke()", x.poke(cell, FIRST), 0);
    Ledger.due(what + ": run()", x.run(9), may ? 1 : -1);
    Ledger.due(what + ": the cell", x.peek(cell), may && op == 7 ? 7 : isCell(cell) ? FIRST : 0);
    Ledger.due(what + ": watch()", x.watch(9), may ? 1 : op == 6 ? 4 : 5);
    Ledger.due(what + ": result()", x.result(), may ? 0 : cell);
    Ledger.due(what + ": steps()", x.steps(), may ? 3 : 1);
    Ledger.due(what + ": the cell", x.poke(cell, 0), may && op == 7 ? 7 : isCell(cell) ? FIRST : 0);
    Ledger.due(what + ": strays()", x.strays(), 0);
  }

  private static void obligations() {
    Ledger.sentence("Parts 1 and 3", "cells rlo .. rhi - 1 may be read, wlo .. whi - 1 written: all cells");
    for (int[] p : POLICIES) {
      CodeHarbour x = new CodeHarbour();
      set(x, p);
      for (int cell = -2; cell <= 258; cell++) {
        if (cell % 10 == 0) {
          x = new CodeHarbour();
          set(x, p);
        }
        touches(x, p, 6, cell);
        touches(x, p, 7, cell);
      }
    }
  }

  private static void oneBehindAnother() {
    Ledger.sentence("Promise 4", "The policy: one behind another, with code from before");
    for (int[] p : POLICIES) {
      for (int[] q : POLICIES) {
        CodeHarbour x = new CodeHarbour();
        set(x, p);
        touches(x, p, 6, 15);
        set(x, q);
        Ledger.due("watch()", x.watch(9), -1);
        Ledger.due("run()", x.run(9), -1);
        for (int cell : new int[] {q[0] - 1, q[0], q[1] - 1, q[1], p[0], p[1] - 1}) {
          touches(x, q, 6, cell);
        }
        for (int cell : new int[] {q[2] - 1, q[2], q[3] - 1, q[3], p[2], p[3] - 1}) {
          touches(x, q, 7, cell);
        }
        Ledger.due("one that is none", x.policy(p[2] + 1, p[1], p[2], p[3]), -1);
        touches(x, q, 6, q[0]);
        touches(x, q, 7, q[2]);
      }
    }
  }

  private static String varName(int i) {
    return "" + (char) ('a' + i / 26) + (char) ('a' + i % 26) + "q";
  }

  private static String vars(int many) {
    StringBuilder text = new StringBuilder();
    for (int i = 0; i < many; i++) {
      text.append("var ").append(varName(i)).append(";");
    }
    return text.toString();
  }

  private static void pokeAll(CodeHarbour x) {
    for (int i = 0; i < 256; i++) {
      x.poke(i, FIRST + i);
    }
  }

  /** All cells are as they were poked, but for one. */
  private static void allBut(CodeHarbour x, String what, int cell, int v) {
    long d = 7;
    for (int i = 0; i < 256; i++) {
      d = d * 31 + (i == cell ? v : FIRST + i);
    }
    int[] rest = {x.result(), x.steps(), x.told(0), x.told(1), x.told(2), x.told(3), x.told(4), x.told(5), x.told(6),
        x.told(7)};
    for (int r : rest) {
      d = d * 31 + r;
    }
    Ledger.due(what + ": the cells", x.digest(), d);
  }

  /** A source comes in; its run puts v into one cell and answers what was in another one. */
  private static void puts(int[] p, String text, int cell, int v, int read) {
    CodeHarbour x = new CodeHarbour();
    pokeAll(x);
    set(x, p);
    Ledger.source(x, text, 0, -1);
    String what = name(p) + " " + text;
    Ledger.due(what + ": run()", x.run(200), 1);
    Ledger.due(what + ": result()", x.result(), FIRST + read);
    allBut(x, what, cell, v);
    x.poke(cell, FIRST + cell);
    Ledger.due(what + ": watch()", x.watch(200), 1);
    Ledger.due(what + ": result()", x.result(), FIRST + read);
    allBut(x, what, cell, v);
  }

  private static void refused(int[] p, String text, int fault, int place) {
    CodeHarbour x = new CodeHarbour();
    set(x, p);
    Ledger.source(x, text, fault, place);
  }

  private static void sources(int[] p) {
    int room = p[3] - p[2];
    refused(p, vars(room) + "var zz;", 6, vars(room).length() + 4);
    for (int length = Math.max(1, room - 1); length <= 64; length++) {
      String text = "arr zz[" + length + "];";
      if (length > room) {
        refused(p, text, 6, 7);
      } else {
        String first = length > 1 ? "zz[0]" : Integer.toString(FIRST + p[2]);
        puts(p, text + "zz[" + (length - 1) + "] = 5; return " + first + ";", p[2] + length - 1, 5, p[2]);
      }
    }
    if (room == 0) {
      refused(p, "arr zz[1];", 6, 7);
      refused(p, "return zz;", 3, 7);
      Ledger.due(name(p) + ": a source without a cell", worksWithoutCells(p), 42);
      return;
    }
    String first = room > 1 ? varName(0) : Integer.toString(FIRST + p[2]);
    puts(p, vars(room) + varName(room - 1) + "=3; return " + first + ";", p[3] - 1, 3, p[2]);
    for (int length : new int[] {1, 2, 63, 64}) {
      int before = room - length;
      if (before >= 1) {
        // The arr's first and last cell; the var ahead of it.
        String text = vars(before) + "arr zz[" + length + "];";
        puts(p, text + "zz[" + (length - 1) + "]=3; return " + varName(before - 1) + ";", p[3] - 1, 3,
            p[2] + before - 1);
        puts(p, text + varName(0) + "=4; for i=" + (length - 1) + ".." + length + "{return zz[i];}", p[2], 4,
            p[3] - 1);
        refused(p, vars(before + 1) + "arr zz[" + length + "];", 6, vars(before + 1).length() + 7);
        refused(p, text + "var yy;", 6, text.length() + 4);
        refused(p, text + "arr yy[1];", 6, text.length() + 7);
      }
    }
  }

  private static int worksWithoutCells(int[] p) {
    CodeHarbour x = new CodeHarbour();
    set(x, p);
    Ledger.source(x, "for i = 40 .. 50 { if (i == 42) { return i; } }", 0, -1);
    Ledger.due("run()", x.run(200), 1);
    return x.result();
  }

  private static void sourcesOfAll() {
    Ledger.sentence("Part 6", "Cells are given in order, from wlo on; 6 cells beyond whi - 1");
    for (int[] p : POLICIES) {
      sources(p);
    }
    for (int room = 0; room <= 6; room++) {
      for (int wlo : new int[] {0, 1, 77, 256 - room}) {
        sources(new int[] {Math.max(0, wlo - 3), Math.min(256, wlo + room + 4), wlo, wlo + room});
        sources(new int[] {wlo, wlo + room, wlo, wlo + room});
      }
    }
  }

  /** The same object compiles the same source under one policy behind another. */
  private static void moves() {
    Ledger.sentence("Part 6", "Cells from wlo on, of the policy when the source is compiled");
    CodeHarbour x = new CodeHarbour();
    String text = "var n; arr a[2]; n = n + 1; a[1] = n * 10; return n;";
    int[] due = new int[256];
    for (int wlo : new int[] {0, 5, 0, 253, 100, 5, 0}) {
      Ledger.due("policy()", x.policy(wlo, wlo + 3, wlo, wlo + 3), 0);
      Ledger.source(x, text, 0, -1);
      due[wlo]++;
      due[wlo + 2] = 10 * due[wlo];
      Ledger.due("run()", x.run(99), 1);
      Ledger.due("result()", x.result(), due[wlo]);
      for (int i : new int[] {0, 2, 5, 7, 100, 102, 253, 255}) {
        Ledger.due("cell " + i, x.peek(i), due[i]);
      }
    }
  }

  public static void main(String[] args) {
    obligations();
    oneBehindAnother();
    sourcesOfAll();
    moves();
    Ledger.close();
  }
}

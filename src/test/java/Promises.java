import java.math.BigInteger;

/** The promises 1 to 16 of the document, sentence by sentence, with answers that were reckoned by hand. */
public final class Promises {
  private static final int LEAST = Wire.LEAST;
  private static final int MOST = Wire.MOST;
  private static final byte[] HALTING = Wire.join(Wire.code(0, Wire.HALT), 32);

  /** One package for each FAULT, 0 for none; all have one instruction more than the one before. */
  private static byte[] packageOf(int fault) {
    byte[] code = Wire.join(Wire.times(fault + 1, Wire.li(0, fault)), Wire.HALT);
    byte[] head = Wire.head(fault + 2, fault == 4 || fault == 5 ? 1 : 0);
    return switch (fault) {
      case 0 -> Wire.join(head, code, 32);
      case 1 -> Wire.join(head, code);
      case 2 -> Wire.join(79, head, code, 32);
      case 3 -> Wire.join(head, Wire.times(fault + 1, Wire.li(0, fault)), Wire.trap(100), 32);
      case 4 -> Wire.join(head, code, 99);
      case 5 -> Wire.join(head, code, Wire.times(41, 19));
      case 6 -> Wire.join(Wire.head(102, 0), Wire.times(101, Wire.addi(0, 0, 1)), Wire.HALT, 32);
      case 7 -> Wire.join(head, code, 99);
      case 8 -> Wire.join(head, code, 36);
      default -> Wire.join(head, code, 32, 32);
    };
  }

  private static int instructionsOf(int fault) {
    return fault == 6 ? 102 : fault + 2;
  }

  private static int placeOf(int fault) {
    int behindCode = 5 + 7 * (fault + 2);
    return switch (fault) {
      case 0 -> -1;
      case 1, 4, 7, 8 -> behindCode;
      case 2, 6 -> 0;
      case 3 -> behindCode - 7;
      case 5 -> behindCode + 40;
      default -> behindCode + 1;
    };
  }

  private static void newObject() {
    Ledger.sentence("Promise 1", "No code");
    CodeHarbour x = new CodeHarbour();
    for (int i = -1; i < 10; i++) {
      Ledger.due("told(" + i + ")", x.told(i), 0);
    }
    Ledger.due("run()", x.run(1), -1);
    Ledger.due("watch()", x.watch(1), -1);
    Ledger.sentence("Promise 1", "TAPE empty");
    Ledger.due("end(1)", x.end(1), -1);
    Ledger.due("end(0)", x.end(0), 0);
    Ledger.due("feed()", x.feed(0, 0, 0, 0, 0), 20);
    CodeHarbour empty = new CodeHarbour();
    Ledger.due("load() of nothing", empty.load(), -1);
    Ledger.due("its fault", empty.fault(0), 1);
    Ledger.due("its place", empty.fault(1), 0);
    Ledger.sentence("Promise 1", "cells 0");
    CodeHarbour y = new CodeHarbour();
    for (int i = 0; i < 256; i++) {
      Ledger.due("peek(" + i + ")", y.peek(i), 0);
    }
    Ledger.sentence("Promise 1", "the policy as at first");
    Ledger.source(y, "arr a[64]; arr b[64]; arr c[64]; arr d[64]; a[0] = 4; d[63] = 5; return a[0];", 0, -1);
    Ledger.due("run()", y.run(100), 1);
    Ledger.due("cell 0", y.peek(0), 4);
    Ledger.due("cell 255", y.peek(255), 5);
    Ledger.sentence("Promise 1", "A new object has nothing of another one");
    CodeHarbour z = new CodeHarbour();
    Ledger.due("peek(255)", z.peek(255), 0);
    Ledger.due("told(3)", z.told(3), 0);
    Ledger.due("steps()", z.steps(), 0);
    Ledger.due("fault(1)", z.fault(1), -1);
  }

  private static void feed() {
    Ledger.sentence("Promise 2",
        "The twenty bytes of five ints, the highest of each first, come to the TAPE; answers how many it has"
        + " then");
    CodeHarbour x = new CodeHarbour();
    Ledger.due("return 1", x.feed(0x20726574, 0x75726e20, 0x31202020, 0x20202020, 0x20202020), 20);
    Ledger.due("+ 23;", x.feed(0x2b203233, 0x3b202020, 0x20202020, 0x20202020, 0x2020200a), 40);
    Ledger.due("compile()", x.compile(), 0);
    x.run(10);
    Ledger.due("result()", x.result(), 24);
    // All places of the twenty: a byte that is no word, at each of them.
    for (int at = 0; at < 20; at++) {
      int[] five = {0x20202020, 0x20202020, 0x20202020, 0x20202020, 0x20202020};
      five[at / 4] ^= 0xdf << 24 - at % 4 * 8;
      x.feed(0x20202020, 0x20202020, 0x20202020, 0x20202020, 0x20202020);
      Ledger.due("feed()", x.feed(five[0], five[1], five[2], five[3], five[4]), 40);
      x.compile();
      Ledger.due("fault(0)", x.fault(0), 1);
      Ledger.due("fault(1)", x.fault(1), 20 + at);
    }
    Ledger.sentence("Promise 2", "-1, and nothing comes, if these would be more than 20000");
    // This takes more calls than the 512 for which an object is promised; no run of 512 can fill the tape.
    CodeHarbour full = new CodeHarbour();
    for (int i = 1; i <= 999; i++) {
      Ledger.due("feed() " + i, full.feed(0x20202020, 0x20202020, 0x20202020, 0x20202020, 0x20202020),
          20 * i);
    }
    Ledger.due("end(19979)", full.end(19979), 19979);
    Ledger.due("to 19999", full.feed(0x20202020, 0x20202020, 0x20202020, 0x20202020, 0x20202020), 19999);
    Ledger.due("one byte of room", full.feed(-1, -1, -1, -1, -1), -1);
    Ledger.due("nothing came", full.end(20000), -1);
    Ledger.due("nothing came", full.end(19999), 19999);
    Ledger.due("end(19981)", full.end(19981), 19981);
    Ledger.due("19 bytes of room", full.feed(-1, -1, -1, -1, -1), -1);
    Ledger.due("nothing came", full.end(19982), -1);
    Ledger.due("end(19980)", full.end(19980), 19980);
    Ledger.due("20 bytes of room", full.feed(0x20202020, 0x20202020, 0x20202020, 0x20202020, 0x2020203f),
        20000);
    Ledger.due("no room", full.feed(-1, -1, -1, -1, -1), -1);
    Ledger.due("it stays", full.end(20000), 20000);
    full.compile();
    Ledger.due("fault(0)", full.fault(0), 1);
    Ledger.due("the last byte", full.fault(1), 19999);
    Ledger.due("feed() behind it", full.feed(0, 0, 0, 0, 0), 20);
  }

  private static void end() {
    Ledger.sentence("Promise 3", "The TAPE keeps its first n bytes; answers how many it has then");
    CodeHarbour x = new CodeHarbour();
    x.feed(0x72657475, 0x726e2037, 0x37373b3f, 0x3f3f3f3f, 0x3f3f3f3f);
    Ledger.due("end(20)", x.end(20), 20);
    Ledger.due("end(11)", x.end(11), 11);
    Ledger.due("end(11) again", x.end(11), 11);
    Ledger.due("end(8)", x.end(8), 8);
    // "return 7" goes on with "9;"
    Ledger.due("feed() behind it", x.feed(0x393b2020, 0x20202020, 0x20202020, 0x20202020, 0x20202020), 28);
    Ledger.due("compile()", x.compile(), 0);
    x.run(9);
    Ledger.due("result()", x.result(), 79);
    x.feed(0, 0, 0, 0, 0);
    Ledger.due("end(0)", x.end(0), 0);
    Ledger.due("nothing is left", x.compile(), 0);
    Ledger.sentence("Promise 3", "-1, and it stays, if n is below 0 or above what it has");
    CodeHarbour y = new CodeHarbour();
    for (int n : new int[] {-1, LEAST, 1, 20, MOST}) {
      Ledger.due("end(" + n + ") of none", y.end(n), -1);
    }
    y.feed(0x72657475, 0x726e2037, 0x3b202020, 0x20202020, 0x20202020);
    for (int n : new int[] {-1, -20, LEAST, 21, 40, 20000, 20001, MOST}) {
      Ledger.due("end(" + n + ") of 20", y.end(n), -1);
    }
    Ledger.due("it stays", y.end(20), 20);
    Ledger.due("end(9)", y.end(9), 9);
    Ledger.due("end(10) of 9", y.end(10), -1);
    Ledger.due("compile()", y.compile(), 0);
    y.run(9);
    Ledger.due("result()", y.result(), 7);
    Ledger.due("end(1) behind a compile()", y.end(1), -1);
  }

  private static boolean isPolicy(int rlo, int rhi, int wlo, int whi) {
    return 0 <= rlo && rlo <= wlo && wlo <= whi && whi <= rhi && rhi <= 256;
  }

  /** The policy is seen by which of the cells LD and ST may touch when they are watched. */
  private static void policyIs(CodeHarbour x, int rlo, int rhi, int wlo, int whi) {
    for (int[] edge : new int[][] {{6, rlo - 1, 4}, {6, rlo, 1}, {6, rhi - 1, 1}, {6, rhi, 4}, {7, wlo - 1,
        5},
        {7, wlo, 1}, {7, whi - 1, 1}, {7, whi, 5}}) {
      Ledger.holds(x, Wire.ins(edge[0], 0, 1, edge[1]), Wire.HALT);
      Ledger.due("op " + edge[0] + " of " + edge[1], x.watch(2), edge[2]);
    }
  }

  private static void policy() {
    Ledger.sentence("Promise 4", "The policy; answers 0, and no code is held or in then");
    CodeHarbour x = new CodeHarbour();
    Ledger.source(x, "return 3;", 0, -1);
    x.run(9);
    Ledger.due("policy()", x.policy(1, 9, 2, 8), 0);
    Ledger.due("told(0)", x.told(0), 0);
    Ledger.due("told(2)", x.told(2), 0);
    Ledger.due("told(3)", x.told(3), 0);
    Ledger.due("run()", x.run(1), -1);
    Ledger.due("watch()", x.watch(1), -1);
    Ledger.due("result() stays", x.result(), 3);
    Ledger.due("steps() stay", x.steps(), 3);
    Ledger.due("told(6) stays", x.told(6), 1);
    policyIs(x, 1, 9, 2, 8);
    Ledger.due("held code", x.told(2), 1);
    Ledger.due("the same policy", x.policy(1, 9, 2, 8), 0);
    Ledger.due("no code is held", x.told(2), 0);
    Ledger.due("the tape stays", x.feed(0x72657475, 0x726e2037, 0x3b202020, 0x20202020, 0x20202020), 20);
    x.policy(0, 256, 0, 256);
    Ledger.due("the tape stays", x.end(20), 20);
    Ledger.sentence("Promise 4",
        "-1, and nothing is changed, if it is not as told: each edge of 0 <= rlo <= wlo <= whi <= rhi <="
        + " 256");
    CodeHarbour y = new CodeHarbour();
    y.policy(5, 100, 6, 90);
    Ledger.source(y, "return 4;", 0, -1);
    int[][] bad = {{-1, 100, 6, 90}, {7, 100, 6, 90}, {5, 100, 91, 90}, {5, 89, 6, 90}, {5, 257, 6, 90}, {5,
        257, 6, 257}, {LEAST, 100, 6, 90}, {5, MOST, 6, 90}, {5, 100, -1, 90}, {5, 100, 6, -1}, {5, LEAST, 6,
        90}, {MOST, 100, 6, 90}, {-1, -1, -1, -1}, {257, 257, 257, 257}, {0, 256, 0, 257}, {0, 256, 256, 255},
        {1, 0, 0, 0}, {0, 255, 0, 256}};
    for (int[] p : bad) {
      Ledger.due("policy" + java.util.Arrays.toString(p), y.policy(p[0], p[1], p[2], p[3]), -1);
      Ledger.due("code is in", y.told(3), 1);
    }
    Ledger.due("run()", y.run(9), 1);
    policyIs(y, 5, 100, 6, 90);
    int[][] good = {{0, 256, 0, 256}, {0, 0, 0, 0}, {256, 256, 256, 256}, {5, 5, 5, 5}, {0, 256, 256, 256},
        {0, 256, 0, 0}, {0, 1, 0, 1}, {255, 256, 255, 256}, {0, 256, 255, 255}, {6, 90, 6, 90}};
    for (int[] p : good) {
      Ledger.due("policy" + java.util.Arrays.toString(p), y.policy(p[0], p[1], p[2], p[3]), 0);
    }
    int[] values = {LEAST, -1, 0, 1, 255, 256, 257, MOST};
    for (int a : values) {
      for (int b : values) {
        CodeHarbour z = new CodeHarbour();
        for (int c : values) {
          for (int d : values) {
            Ledger.due("policy " + a + " " + b + " " + c + " " + d, z.policy(a, b, c, d), isPolicy(a, b, c,
                d) ? 0 : -1);
          }
        }
      }
    }
  }

  private static void load() {
    Ledger.sentence("Promise 5", "The TAPE is taken as a PACKAGE (it is empty then)");
    for (int fault = 0; fault <= 9; fault++) {
      CodeHarbour x = new CodeHarbour();
      Ledger.loads(x, "fault " + fault, fault, placeOf(fault), packageOf(fault));
      Ledger.due("end(1) behind fault " + fault, x.end(1), -1);
      Ledger.due("feed() behind fault " + fault, x.feed(0, 0, 0, 0, 0), 20);
    }
    Ledger.sentence("Promise 5", "0: it is in, and held");
    CodeHarbour x = new CodeHarbour();
    Ledger.loads(x, "a package", 0, -1, packageOf(0));
    Ledger.due("told(0)", x.told(0), 2);
    Ledger.due("run()", x.run(9), 1);
    Ledger.due("watch()", x.watch(9), 1);
    Ledger.sentence("Promise 5",
        "-1: it has a FAULT; it is not in; its code is held if the FAULT is 4 or more, else none is");
    for (int fault = 1; fault <= 9; fault++) {
      for (int before = 0; before < 3; before++) {
        CodeHarbour y = new CodeHarbour();
        if (before == 1) {
          Ledger.loads(y, "one that is in", 0, -1, HALTING);
        } else if (before == 2) {
          Ledger.holds(y, Wire.trap(3));
        }
        Ledger.loads(y, "fault " + fault, fault, placeOf(fault), packageOf(fault));
        boolean held = fault >= 4;
        Ledger.due("told(0) of fault " + fault, y.told(0), held ? instructionsOf(fault) : 0);
        Ledger.due("run() of fault " + fault, y.run(200), -1);
        Ledger.due("watch() of fault " + fault, y.watch(200), held ? 1 : -1);
        Ledger.due("result() of fault " + fault, y.result(), held ? fault == 6 ? 101 : fault : 0);
      }
    }
  }

  private static void compile() {
    Ledger.sentence("Promise 6", "The TAPE is taken as a source. Answers 0: its package is in, and held");
    CodeHarbour x = new CodeHarbour();
    Ledger.source(x, "var n; n = n + 1; return n;", 0, -1);
    Ledger.due("told(0)", x.told(0), 7 + 4 + 5);
    Ledger.due("end(1)", x.end(1), -1);
    Ledger.due("run()", x.run(99), 1);
    Ledger.due("watch()", x.watch(99), 1);
    Ledger.due("result()", x.result(), 2);
    Ledger.due("compile() of nothing", x.compile(), 0);
    Ledger.due("told(0)", x.told(0), 5);
    CodeHarbour again = new CodeHarbour();
    for (int i = 0; i < 5; i++) {
      Ledger.source(again, "arr a[9];" + "for i=0..9{a[i]=i;}".repeat(70), 0, -1);
      Ledger.due("told(0) of 70 fors", again.told(0), 70 * 11 + 5);
    }
    Ledger.sentence("Promise 6", "-1: it has a FAULT; no code is held or in");
    String[] faulty = {"return ?;", "return;", "return a;", "arr a[1]; return a;", "arr a[0];",
        "return 1;".repeat(400), "return - - - - - 1;"};
    int[] places = {7, 6, 7, 17, 6, 0, 17};
    for (int i = 0; i < faulty.length; i++) {
      CodeHarbour y = new CodeHarbour();
      Ledger.source(y, faulty[i], i + 1, places[i]);
      Ledger.due("told(0)", y.told(0), 0);
      Ledger.due("watch()", y.watch(9), -1);
      Ledger.loads(y, "one that is in", 0, -1, HALTING);
      Ledger.source(y, faulty[i], i + 1, places[i]);
      Ledger.due("told(0)", y.told(0), 0);
      Ledger.due("run()", y.run(9), -1);
      Ledger.due("watch()", y.watch(9), -1);
      Ledger.due("end(1)", y.end(1), -1);
      Ledger.source(y, "return 5;", 0, -1);
      Ledger.source(y, faulty[i], i + 1, places[i]);
      Ledger.due("run()", y.run(9), -1);
      Ledger.holds(y, Wire.HALT);
      Ledger.source(y, faulty[i], i + 1, places[i]);
      Ledger.due("watch()", y.watch(9), -1);
    }
  }

  private static void fault() {
    Ledger.sentence("Promise 7", "Of the latest load() or compile() its FAULT (what = 0), its place (1)");
    CodeHarbour x = new CodeHarbour();
    for (int fault = 1; fault <= 9; fault++) {
      Ledger.loads(x, "fault " + fault, fault, placeOf(fault), packageOf(fault));
    }
    Ledger.source(x, "return  a;", 3, 8);
    x.policy(0, 256, 0, 256);
    x.run(1);
    x.watch(1);
    x.feed(0, 0, 0, 0, 0);
    x.end(0);
    x.poke(1, 1);
    Ledger.due("fault(0) stays", x.fault(0), 3);
    Ledger.due("fault(1) stays", x.fault(1), 8);
    Ledger.sentence("Promise 7", "0 and -1 if it had none, or before one");
    CodeHarbour y = new CodeHarbour();
    Ledger.due("fault(0) before one", y.fault(0), 0);
    Ledger.due("fault(1) before one", y.fault(1), -1);
    y.policy(1, 0, 0, 0);
    y.end(-1);
    y.run(-1);
    Ledger.due("fault(0) before one", y.fault(0), 0);
    Ledger.due("fault(1) before one", y.fault(1), -1);
    Ledger.loads(x, "a load() that had none", 0, -1, HALTING);
    Ledger.source(x, "return;", 2, 6);
    Ledger.source(x, "return 1;", 0, -1);
    Ledger.loads(x, "a load() with one", 1, 0);
    Ledger.source(x, "return 1;", 0, -1);
    Ledger.sentence("Promise 7", "0 for another what");
    Ledger.source(x, "return  a;", 3, 8);
    for (int what : new int[] {-1, 2, 3, 8, 256, LEAST, MOST}) {
      Ledger.due("fault(" + what + ")", x.fault(what), 0);
    }
  }

  private static void run() {
    Ledger.sentence("Promise 8", "A RUN of the code that is in, unwatched. Answers how it ends, 1, 2 or 3");
    CodeHarbour x = new CodeHarbour();
    // MARK, LI, LD, LI, ADD, LI, ST; MARK, LI, LD, HALT.
    Ledger.source(x, "var n; n = n + 1; return n;", 0, -1);
    Ledger.due("behind its HALT", x.run(11), 1);
    Ledger.due("result()", x.result(), 1);
    Ledger.due("ahead of its HALT", x.run(10), 3);
    Ledger.due("cell 0", x.peek(0), 2);
    Ledger.due("behind its ST", x.run(7), 3);
    Ledger.due("cell 0", x.peek(0), 3);
    Ledger.due("ahead of its ST", x.run(6), 3);
    Ledger.due("cell 0", x.peek(0), 3);
    Ledger.loads(x, "a TRAP", 0, -1, Wire.code(0, Wire.trap(7)), 32);
    Ledger.due("behind its TRAP", x.run(1), 2);
    Ledger.sentence("Promise 8", "-1, and nothing is done, if none is in");
    CodeHarbour y = new CodeHarbour();
    Ledger.due("run()", y.run(5), -1);
    Ledger.holds(y, Wire.st(0, 1, 0), Wire.HALT);
    y.poke(0, 9);
    Ledger.due("of code that is held", y.run(5), -1);
    Ledger.due("cell 0", y.peek(0), 9);
    Ledger.due("steps()", y.steps(), 0);
    Ledger.sentence("Promise 8", "-1, and nothing is done, if FUEL is not 0 to 20000");
    CodeHarbour z = new CodeHarbour();
    Ledger.source(z, "var n; while (0 < 1) { n = n + 1; }", 0, -1);
    z.run(20);
    long before = z.digest();
    for (int fuel : new int[] {-1, LEAST, 20001, MOST}) {
      Ledger.due("run(" + fuel + ")", z.run(fuel), -1);
      Ledger.due("digest()", z.digest(), before);
    }
    Ledger.due("run(0)", z.run(0), 3);
    Ledger.due("steps()", z.steps(), 0);
    Ledger.due("run(1)", z.run(1), 3);
    Ledger.due("steps()", z.steps(), 1);
    Ledger.due("run(20000)", z.run(20000), 3);
    Ledger.due("steps()", z.steps(), 20000);
    Ledger.due("run(19999)", z.run(19999), 3);
    Ledger.due("steps()", z.steps(), 19999);
    // LI, 6666 times MARK, ADDI, JNE, then HALT: 20000 steps.
    Ledger.loads(z, "a loop", 0, -1, Wire.code(1, Wire.li(1, 6666), Wire.mark(0), Wire.addi(0, 0, 1),
        Wire.ins(12, 0, 1, 1), Wire.HALT), 16, 32, Wire.times(8, 35), 34, 33, 34, 32, 34, 32);
    Ledger.due("HALT is the last step", z.run(20000), 1);
    Ledger.due("result()", z.result(), 6666);
    Ledger.due("steps()", z.steps(), 20000);
    Ledger.due("HALT is no step any more", z.run(19999), 3);
    Ledger.due("watched", z.watch(20000), 1);
  }

  private static void watch() {
    Ledger.sentence("Promise 9", "A RUN of the code that is held, watched");
    CodeHarbour x = new CodeHarbour();
    Ledger.due("none is held", x.watch(5), -1);
    Ledger.holds(x, Wire.li(0, 4), Wire.HALT);
    Ledger.due("held", x.watch(5), 1);
    Ledger.due("result()", x.result(), 4);
    Ledger.source(x, "return 5;", 0, -1);
    Ledger.due("in", x.watch(5), 1);
    Ledger.due("result()", x.result(), 5);
    Ledger.sentence("Promise 9",
        "a LD of a cell that may not be read ends it as 4, a ST that may not be written as 5, ahead of this"
        + " step, with that cell");
    CodeHarbour y = new CodeHarbour();
    y.policy(10, 20, 12, 18);
    for (int cell : new int[] {LEAST, -1, 0, 9, 20, 255, 256, MOST}) {
      Ledger.holds(y, Wire.li(1, cell), Wire.ld(0, 1, 0), Wire.HALT);
      Ledger.due("LD " + cell, y.watch(9), 4);
      Ledger.due("result()", y.result(), cell);
      Ledger.due("steps()", y.steps(), 1);
    }
    for (int cell : new int[] {LEAST, -1, 0, 10, 11, 18, 19, 255, 256, MOST}) {
      y.poke(cell, 3);
      Ledger.holds(y, Wire.li(1, cell), Wire.st(1, 1, 0), Wire.HALT);
      Ledger.due("ST " + cell, y.watch(9), 5);
      Ledger.due("result()", y.result(), cell);
      Ledger.due("steps()", y.steps(), 1);
      Ledger.due("the cell", y.peek(cell), cell >= 0 && cell < 256 ? 3 : 0);
    }
    for (int cell : new int[] {10, 11, 12, 17, 18, 19}) {
      y.poke(cell, 100 + cell);
      Ledger.holds(y, Wire.ld(0, 1, cell), Wire.HALT);
      Ledger.due("LD " + cell, y.watch(9), 1);
      Ledger.due("result()", y.result(), 100 + cell);
    }
    for (int cell : new int[] {12, 13, 16, 17}) {
      Ledger.holds(y, Wire.li(2, 7), Wire.st(2, 1, cell), Wire.HALT);
      Ledger.due("ST " + cell, y.watch(9), 1);
      Ledger.due("the cell", y.peek(cell), 7);
    }
    Ledger.sentence("Promise 9", "ahead of this step: the FUEL may end first");
    Ledger.holds(y, Wire.li(1, 5), Wire.ld(0, 1, 0), Wire.HALT);
    Ledger.due("watch(0)", y.watch(0), 3);
    Ledger.due("watch(1)", y.watch(1), 3);
    Ledger.due("result()", y.result(), 0);
    Ledger.due("steps()", y.steps(), 1);
    Ledger.due("watch(2)", y.watch(2), 4);
    Ledger.due("steps()", y.steps(), 1);
    Ledger.sentence("Promise 9", "Else as run()");
    Ledger.source(y, "var n; while (0 < 1) { n = n + 1; }", 0, -1);
    y.watch(20);
    long before = y.digest();
    for (int fuel : new int[] {-1, LEAST, 20001, MOST}) {
      Ledger.due("watch(" + fuel + ")", y.watch(fuel), -1);
      Ledger.due("digest()", y.digest(), before);
    }
    Ledger.due("watch(0)", y.watch(0), 3);
    Ledger.due("steps()", y.steps(), 0);
    Ledger.due("watch(20000)", y.watch(20000), 3);
    Ledger.due("steps()", y.steps(), 20000);
    Ledger.holds(y, Wire.trap(8));
    Ledger.due("watch(0)", y.watch(0), 3);
    Ledger.due("watch(1)", y.watch(1), 2);
    Ledger.due("result()", y.result(), 8);
    y.policy(0, 256, 0, 256);
    Ledger.due("behind a policy()", y.watch(1), -1);
  }

  private static void result() {
    Ledger.sentence("Promise 10", "result(): 0 before one");
    CodeHarbour x = new CodeHarbour();
    Ledger.due("before one", x.result(), 0);
    x.run(5);
    x.watch(5);
    Ledger.due("before one that was done", x.result(), 0);
    Ledger.loads(x, "HALT", 0, -1, Wire.code(0, Wire.li(0, -7), Wire.HALT), 32);
    Ledger.due("behind a load()", x.result(), 0);
    Ledger.sentence("Promise 10", "what it ended with: register 0, the TRAP's n, the cell; 0 for 3");
    x.run(5);
    Ledger.due("register 0", x.result(), -7);
    x.watch(2);
    Ledger.due("register 0, watched", x.result(), -7);
    x.run(1);
    Ledger.due("0 for 3, though register 0 is -7", x.result(), 0);
    x.run(2);
    x.watch(1);
    Ledger.due("0 for 3, watched", x.result(), 0);
    Ledger.loads(x, "TRAP", 0, -1, Wire.code(0, Wire.li(0, -7), Wire.li(1, 1), Wire.trap(42)), 32);
    x.run(3);
    Ledger.due("the TRAP's n", x.result(), 42);
    x.run(2);
    x.watch(3);
    Ledger.due("the TRAP's n, watched", x.result(), 42);
    Ledger.holds(x, Wire.li(0, 5), Wire.ld(0, 0, 999), Wire.HALT);
    x.watch(9);
    Ledger.due("the cell of LD", x.result(), 1004);
    Ledger.holds(x, Wire.li(0, 5), Wire.st(0, 0, -6), Wire.HALT);
    x.watch(9);
    Ledger.due("the cell of ST", x.result(), -1);
    Ledger.sentence("Promise 10", "Of the latest run() or watch() that was done");
    x.run(-1);
    x.run(20001);
    x.run(5);
    x.watch(-1);
    x.watch(20001);
    Ledger.due("what was not done leaves it", x.result(), -1);
    Ledger.loads(x, "a load()", 0, -1, HALTING);
    Ledger.source(x, "return 6;", 0, -1);
    Ledger.source(x, "return;", 2, 6);
    x.poke(0, 1);
    x.policy(0, 256, 0, 256);
    x.watch(1);
    Ledger.due("other calls leave it", x.result(), -1);
    Ledger.source(x, "return 6;", 0, -1);
    x.run(9);
    Ledger.due("a later one", x.result(), 6);
    x.run(0);
    Ledger.due("the latest one", x.result(), 0);
  }

  private static void steps() {
    Ledger.sentence("Promise 11", "steps(): 0 before one");
    CodeHarbour x = new CodeHarbour();
    Ledger.due("before one", x.steps(), 0);
    x.run(5);
    x.watch(5);
    Ledger.due("before one that was done", x.steps(), 0);
    Ledger.sentence("Promise 11", "How many steps it took");
    Ledger.loads(x, "TRAP", 0, -1, Wire.code(0, Wire.li(0, -7), Wire.li(1, 1), Wire.trap(42)), 32);
    for (int fuel = 0; fuel < 6; fuel++) {
      x.run(fuel);
      Ledger.due("run(" + fuel + ")", x.steps(), Math.min(fuel, 3));
      x.watch(5 - fuel);
      Ledger.due("watch(" + (5 - fuel) + ")", x.steps(), Math.min(5 - fuel, 3));
    }
    Ledger.holds(x, Wire.mov(0, 0), Wire.mov(0, 0), Wire.ld(0, 0, 999), Wire.HALT);
    x.watch(9);
    Ledger.due("ahead of a LD", x.steps(), 2);
    Ledger.sentence("Promise 11", "it: the latest run() or watch() that was done");
    x.run(5);
    x.watch(-1);
    x.watch(20001);
    Ledger.due("what was not done leaves it", x.steps(), 2);
    Ledger.source(x, "return 6;", 0, -1);
    x.run(-1);
    x.run(20001);
    x.policy(0, 256, 0, 256);
    x.run(5);
    Ledger.due("other calls leave it", x.steps(), 2);
    Ledger.source(x, "return 6;", 0, -1);
    x.run(9);
    Ledger.due("a later one", x.steps(), 3);
  }

  private static void pokeAndPeek() {
    Ledger.sentence("Promise 12", "A cell becomes v; answers what it was");
    CodeHarbour x = new CodeHarbour();
    for (int cell : new int[] {0, 1, 127, 128, 254, 255}) {
      Ledger.due("poke()", x.poke(cell, LEAST), 0);
      Ledger.due("poke()", x.poke(cell, MOST), LEAST);
      Ledger.due("poke()", x.poke(cell, cell), MOST);
      Ledger.due("peek()", x.peek(cell), cell);
    }
    Ledger.due("its neighbour", x.peek(2), 0);
    Ledger.sentence("Promise 12", "poke(): 0 if there is no such cell");
    long before = x.digest();
    for (int cell : new int[] {-1, 256, 257, -256, 512, LEAST, MOST}) {
      Ledger.due("poke(" + cell + ")", x.poke(cell, 9), 0);
      Ledger.due("poke(" + cell + ") again", x.poke(cell, 9), 0);
      Ledger.due("digest()", x.digest(), before);
    }
    Ledger.sentence("Promise 13", "A cell; 0 if there is none");
    for (int cell : new int[] {-1, 256, 257, -256, 512, LEAST, MOST}) {
      Ledger.due("peek(" + cell + ")", x.peek(cell), 0);
    }
    Ledger.due("peek(255)", x.peek(255), 255);
    Ledger.sentence("Promises 12 and 13", "No policy is spoken of; cells stay");
    x.policy(3, 3, 3, 3);
    Ledger.due("poke()", x.poke(255, 1), 255);
    Ledger.due("peek()", x.peek(255), 1);
    Ledger.source(x, "return 1;", 0, -1);
    Ledger.due("peek()", x.peek(128), 128);
  }

  private static void told() {
    Ledger.sentence("Promise 14",
        "0: instructions of the code that is held, 0 without one. 2: 1 if code is held. 3: 1 if code is in");
    CodeHarbour x = new CodeHarbour();
    for (int fault = 0; fault <= 9; fault++) {
      Ledger.bring(x, packageOf(fault));
      x.load();
      boolean held = fault == 0 || fault >= 4;
      Ledger.due("told(0) of fault " + fault, x.told(0), held ? instructionsOf(fault) : 0);
      Ledger.due("told(2) of fault " + fault, x.told(2), held ? 1 : 0);
      Ledger.due("told(3) of fault " + fault, x.told(3), fault == 0 ? 1 : 0);
    }
    x.policy(0, 256, 0, 256);
    Ledger.due("told(0) behind a policy()", x.told(0), 0);
    Ledger.sentence("Promise 14",
        "1: NODES of the latest load()'s OBLIGATION; 0 before one, if it had a FAULT of 1 to 6, and behind a"
        + " compile()");
    CodeHarbour y = new CodeHarbour();
    Ledger.due("told(1) before one", y.told(1), 0);
    byte[] marked = Wire.join(Wire.code(1, Wire.mark(0), Wire.HALT), 16);
    for (int fault = 0; fault <= 9; fault++) {
      Ledger.loads(y, "one of 12", 0, -1, marked, 32, Wire.PART_OF_TRUE);
      Ledger.due("told(1)", y.told(1), 12);
      Ledger.loads(y, "fault " + fault, fault, placeOf(fault), packageOf(fault));
      Ledger.due("told(1) of fault " + fault, y.told(1), fault == 0 || fault >= 7 ? 1 : 0);
    }
    Ledger.loads(y, "one of 12, cut in its derivations", 1, marked.length + 1, marked, 32);
    Ledger.due("told(1)", y.told(1), 0);
    Ledger.loads(y, "one of 12, too deep in its derivations", 5, marked.length + 1 + 40, marked, 52,
        Wire.times(40, 2), 1);
    Ledger.due("told(1)", y.told(1), 0);
    Ledger.loads(y, "one of 12", 0, -1, marked, 32, Wire.PART_OF_TRUE);
    y.run(1);
    y.policy(0, 256, 0, 256);
    y.policy(1, 0, 0, 0);
    Ledger.due("told(1) stays", y.told(1), 12);
    Ledger.source(y, "return 1;", 0, -1);
    Ledger.due("told(1) behind a compile()", y.told(1), 0);
    Ledger.loads(y, "one of 12", 8, marked.length, marked, 36);
    Ledger.due("told(1)", y.told(1), 12);
    Ledger.source(y, "return;", 2, 6);
    Ledger.due("told(1) behind a compile() with a FAULT", y.told(1), 0);
  }

  private static void counts(CodeHarbour x, int in, int out, int compiled, int not) {
    Ledger.due("told(4)", x.told(4), in);
    Ledger.due("told(5)", x.told(5), out);
    Ledger.due("told(6)", x.told(6), compiled);
    Ledger.due("told(7)", x.told(7), not);
  }

  private static void toldCounts() {
    Ledger.sentence("Promise 14",
        "4: packages that came in by load(), 5: that did not; 6, 7: likewise by compile()");
    CodeHarbour x = new CodeHarbour();
    counts(x, 0, 0, 0, 0);
    Ledger.loads(x, "one", 0, -1, HALTING);
    counts(x, 1, 0, 0, 0);
    for (int fault = 1; fault <= 9; fault++) {
      Ledger.loads(x, "fault " + fault, fault, placeOf(fault), packageOf(fault));
      counts(x, 1, fault, 0, 0);
    }
    Ledger.source(x, "", 0, -1);
    counts(x, 1, 9, 1, 0);
    Ledger.source(x, "return 2;", 0, -1);
    counts(x, 1, 9, 2, 0);
    Ledger.source(x, "?", 1, 0);
    counts(x, 1, 9, 2, 1);
    Ledger.source(x, "return 1;".repeat(400), 6, 0);
    counts(x, 1, 9, 2, 2);
    Ledger.loads(x, "another one", 0, -1, HALTING);
    x.policy(0, 256, 0, 256);
    x.run(1);
    counts(x, 2, 9, 2, 2);
    Ledger.sentence("Promise 14", "told(): 0 for another what");
    for (int what : new int[] {-1, 8, 9, 256, LEAST, MOST, LEAST + 4}) {
      Ledger.due("told(" + what + ")", x.told(what), 0);
    }
  }

  private static void strays() {
    Ledger.sentence("Promise 15",
        "How many steps of all run()s read or wrote a cell that may not be, or went to a place where no"
        + " instruction is");
    CodeHarbour x = new CodeHarbour();
    Ledger.due("before one", x.strays(), 0);
    x.policy(2, 6, 3, 5);
    Ledger.source(x, "arr a[2]; for i = 0 .. 2 { a[i] = a[1 - i] + 1; } return a[1];", 0, -1);
    for (int fuel = 0; fuel < 90; fuel += 3) {
      x.run(fuel);
      Ledger.due("strays() of " + fuel, x.strays(), 0);
    }
    Ledger.source(x, "arr a[2]; return a[2];", 0, -1);
    Ledger.due("a trap", x.run(20), 2);
    Ledger.due("strays()", x.strays(), 0);
    Ledger.loads(x, "the edges", 0, -1, Wire.code(0, Wire.ld(0, 1, 2), Wire.ld(0, 1, 5), Wire.st(0, 1, 3),
        Wire.st(0, 1, 4), Wire.HALT), 33, 33, 36, 36, 35, 33, 33, 36, 36, 35, 33, 33, 36, 36, 33, 33, 36, 36,
        32);
    Ledger.due("run()", x.run(20), 1);
    Ledger.due("strays()", x.strays(), 0);
    Ledger.sentence("Promise 15",
        "of all run()s: what is watched is ended ahead of such a step, and is no run()");
    Ledger.holds(x, Wire.st(0, 1, 0), Wire.HALT);
    Ledger.due("watch()", x.watch(9), 5);
    Ledger.holds(x, Wire.ld(0, 1, 6), Wire.HALT);
    Ledger.due("watch()", x.watch(9), 4);
    Ledger.due("strays()", x.strays(), 0);
  }

  /** d of 7 over numbers, without wrapping, and then the lowest 64 bits of it, with sign. */
  private static long digestOf(int[] cells, int... rest) {
    BigInteger d = BigInteger.valueOf(7);
    BigInteger by = BigInteger.valueOf(31);
    for (int c : cells) {
      d = d.multiply(by).add(BigInteger.valueOf(c));
    }
    for (int r : rest) {
      d = d.multiply(by).add(BigInteger.valueOf(r));
    }
    return d.longValue();
  }

  private static void digest() {
    Ledger.sentence("Promise 16",
        "d, of 7, goes over numbers x: d * 31 + x, wrapping, one behind the other: the cells, result(),"
        + " steps(), told(0) to told(7)");
    CodeHarbour x = new CodeHarbour();
    int[] cells = new int[256];
    Ledger.due("a new object", x.digest(), digestOf(cells, 0, 0, 0, 0, 0, 0, 0, 0, 0, 0));
    for (int cell : new int[] {0, 1, 7, 100, 254, 255}) {
      for (int v : new int[] {1, -1, LEAST, MOST, cell}) {
        cells[cell] = v;
        x.poke(cell, v);
        Ledger.due("cell " + cell, x.digest(), digestOf(cells, 0, 0, 0, 0, 0, 0, 0, 0, 0, 0));
      }
    }
    Ledger.source(x, "return - 4;", 0, -1);
    Ledger.due("a compile()", x.digest(), digestOf(cells, 0, 0, 10, 0, 1, 1, 0, 0, 1, 0));
    x.run(100);
    Ledger.due("a run()", x.digest(), digestOf(cells, -4, 5, 10, 0, 1, 1, 0, 0, 1, 0));
    Ledger.loads(x, "PART 0", 7, 20, Wire.code(1, Wire.mark(0), Wire.HALT), 16, 99);
    Ledger.due("a load() with a FAULT", x.digest(), digestOf(cells, -4, 5, 2, 12, 1, 0, 0, 1, 1, 0));
    Ledger.loads(x, "HALT", 0, -1, HALTING);
    Ledger.due("a load()", x.digest(), digestOf(cells, -4, 5, 1, 1, 1, 1, 1, 1, 1, 0));
    Ledger.source(x, "}", 2, 0);
    Ledger.due("a compile() with a FAULT", x.digest(), digestOf(cells, -4, 5, 0, 0, 0, 0, 1, 1, 1, 1));
    Ledger.holds(x, Wire.mov(0, 0), Wire.ld(0, 0, LEAST), Wire.HALT);
    x.watch(9);
    Ledger.due("a watch()", x.digest(), digestOf(cells, LEAST, 1, 3, 14, 1, 0, 1, 2, 1, 1));
    Ledger.due("it changes nothing", x.digest(), digestOf(cells, LEAST, 1, 3, 14, 1, 0, 1, 2, 1, 1));
  }

  public static void main(String[] args) {
    newObject();
    feed();
    end();
    policy();
    load();
    compile();
    fault();
    run();
    watch();
    result();
    steps();
    pokeAndPeek();
    told();
    toldCounts();
    strays();
    digest();
    Ledger.close();
  }
}

import java.nio.charset.StandardCharsets;

/** For each promise of the document what it says, with answers that were reckoned by hand. */
public final class Promises {
  private static int wrong = 0;
  private static String promise = "";

  private static void due(String what, long got, long want) {
    if (got != want) {
      wrong++;
      System.out.println(promise + ": " + what + " answered " + got + ", due is " + want);
    }
  }

  private static void bring(CodeHarbour x, byte[] bytes) {
    for (int at = 0; at < bytes.length; at += 20) {
      int[] five = new int[5];
      for (int i = 0; i < 20 && at + i < bytes.length; i++) {
        five[i / 4] |= (bytes[at + i] & 255) << 24 - i % 4 * 8;
      }
      x.feed(five[0], five[1], five[2], five[3], five[4]);
    }
    due("end of what was brought", x.end(bytes.length), bytes.length);
  }

  private static int compile(CodeHarbour x, String text) {
    bring(x, text.getBytes(StandardCharsets.ISO_8859_1));
    return x.compile();
  }

  private static int load(CodeHarbour x, Object... parts) {
    bring(x, Forge.bytes(parts));
    return x.load();
  }

  private static byte[] ins(int op, int a, int b, int n) {
    return Forge.ins(op, a, b, n);
  }

  private static final byte[] HALT = ins(13, 0, 0, 0);

  /** d of 7 over zeros and the last ten numbers. */
  private static long digestOf(int[] cells, long... rest) {
    long d = 7;
    for (int c : cells) {
      d = d * 31 + c;
    }
    for (long r : rest) {
      d = d * 31 + r;
    }
    return d;
  }

  private static void newObject() {
    promise = "1";
    CodeHarbour x = new CodeHarbour();
    for (int i = 0; i < 256; i++) {
      due("peek", x.peek(i), 0);
    }
    for (int i = -1; i < 10; i++) {
      due("told " + i, x.told(i), 0);
    }
    due("run", x.run(1), -1);
    due("watch", x.watch(1), -1);
    due("result", x.result(), 0);
    due("steps", x.steps(), 0);
    due("strays", x.strays(), 0);
    due("fault 0", x.fault(0), 0);
    due("fault 1", x.fault(1), -1);
    due("end", x.end(1), -1);
    due("end 0", x.end(0), 0);
    due("digest", x.digest(), digestOf(new int[266]));
    // At first every cell may be read and written.
    due("the last cell", compile(x, "arr a[64]; arr b[64]; arr c[64]; arr d[64]; d[63] = 5;"), 0);
    due("run", x.run(100), 1);
    due("cell 255", x.peek(255), 5);
    due("another object's cell", new CodeHarbour().peek(255), 0);
  }

  private static void feed() {
    promise = "2";
    CodeHarbour x = new CodeHarbour();
    // "return 1" and "23;" with blanks behind.
    due("feed", x.feed(0x72657475, 0x726e2031, 0x32333b20, 0x20202020, 0x20202020), 20);
    due("compile", x.compile(), 0);
    x.run(10);
    due("the bytes came in order", x.result(), 123);
    // Bytes above 127 come as they are: 255 is no word.
    due("feed", x.feed(-1, -1, -1, -1, -1), 20);
    due("feed", x.feed(-1, -1, -1, -1, -1), 40);
    x.compile();
    due("fault", x.fault(0), 1);
    for (int i = 1; i <= 1000; i++) {
      if (x.feed(0, 0, 0, 0, 0) != 20 * i) {
        due("feed " + i, 0, 20 * i);
      }
    }
    due("a full tape", x.feed(1, 1, 1, 1, 1), -1);
    due("it stays", x.end(20000), 20000);
    due("19981", x.end(19981), 19981);
    due("nothing of it comes", x.feed(1, 1, 1, 1, 1), -1);
    due("it stays", x.end(19982), -1);
    due("19980", x.end(19980), 19980);
    due("and one more", x.feed(1, 1, 1, 1, 1), 20000);
  }

  private static void end() {
    promise = "3";
    CodeHarbour x = new CodeHarbour();
    due("below", x.end(-1), -1);
    due("above", x.end(1), -1);
    x.feed(0x72657475, 0x726e2037, 0x3b3f3f3f, 0, 0);
    due("above", x.end(21), -1);
    due("all", x.end(20), 20);
    due("the least", x.end(-2147483648), -1);
    due("the source alone", x.end(9), 9);
    due("what is gone is gone", x.end(10), -1);
    due("compile", x.compile(), 0);
    due("the tape was taken", x.end(1), -1);
    x.feed(0x72657475, 0x726e2037, 0x3b3f3f3f, 0, 0);
    x.end(0);
    due("feed behind it", x.feed(0, 0, 0, 0, 0), 20);
  }

  private static void policy() {
    promise = "4";
    CodeHarbour x = new CodeHarbour();
    int[][] bad = {{-1, 256, 0, 256}, {0, 257, 0, 256}, {1, 256, 0, 256}, {0, 255, 0, 256},
        {0, 256, 5, 4}, {0, 256, 0, 257}, {0, 10, 11, 11}, {5, 4, 4, 4}, {-2147483648, 256, 0, 1},
        {0, 2147483647, 0, 1}};
    due("compile", compile(x, "return 3;"), 0);
    for (int[] p : bad) {
      due("policy " + java.util.Arrays.toString(p), x.policy(p[0], p[1], p[2], p[3]), -1);
      due("code is in", x.told(3), 1);
    }
    due("run", x.run(10), 1);
    int[][] good = {{0, 256, 0, 256}, {0, 0, 0, 0}, {256, 256, 256, 256}, {3, 3, 3, 3}, {0, 5, 5, 5},
        {1, 9, 2, 8}};
    for (int[] p : good) {
      compile(x, "return 3;");
      due("policy " + java.util.Arrays.toString(p), x.policy(p[0], p[1], p[2], p[3]), 0);
      due("none is held", x.told(2), 0);
      due("none is in", x.told(3), 0);
      due("its number", x.told(0), 0);
      due("run", x.run(1), -1);
      due("watch", x.watch(1), -1);
      due("the result stays", x.result(), 3);
    }
    // 1 .. 8 may be read, 2 .. 7 written: the gate and the watch see it.
    for (int cell = 0; cell < 10; cell++) {
      boolean may = cell >= 1 && cell < 9;
      due("LD " + cell, load(x, 80, 0, 2, 0, 0, ins(6, 0, 1, cell), HALT, 33, 33, 36, 36, 35, 32),
          may ? 0 : -1);
      due("watched", x.watch(9), may ? 1 : 4);
      boolean mayWrite = cell >= 2 && cell < 8;
      due("ST " + cell, load(x, 80, 0, 2, 0, 0, ins(7, 0, 1, cell), HALT, 33, 33, 36, 36, 32),
          mayWrite ? 0 : -1);
      due("watched", x.watch(9), mayWrite ? 1 : 5);
    }
  }

  private static void load() {
    promise = "5";
    CodeHarbour x = new CodeHarbour();
    due("a HALT", load(x, 80, 0, 1, 0, 0, HALT, 32), 0);
    due("it is in", x.told(3), 1);
    due("it is held", x.told(2), 1);
    due("the tape is empty", x.end(1), -1);
    due("fault 3", load(x, 80, 0, 1, 0, 0, ins(13, 1, 0, 0), 32), -1);
    due("none is held", x.told(2), 0);
    due("none is in", x.told(3), 0);
    due("the tape is empty", x.end(1), -1);
    due("fault 4", load(x, 80, 0, 1, 0, 1, HALT, 99), -1);
    due("which", x.fault(0), 4);
    due("it is held", x.told(2), 1);
    due("none is in", x.told(3), 0);
    due("fault 8", load(x, 80, 0, 1, 0, 0, HALT, 36), -1);
    due("it is held", x.told(2), 1);
    due("none is in", x.told(3), 0);
    due("it can be watched", x.watch(1), 1);
    due("but not run", x.run(1), -1);
    // The derivation is cut: that is fault 1, and nothing is held.
    due("fault 1", load(x, 80, 0, 1, 0, 0, HALT), -1);
    due("which", x.fault(0), 1);
    due("where", x.fault(1), 12);
    due("none is held", x.told(2), 0);
    due("fault 9", load(x, 80, 0, 1, 0, 0, HALT, 32, 0), -1);
    due("which", x.fault(0), 9);
    due("where", x.fault(1), 13);
    due("it is held", x.told(2), 1);
    due("an empty tape", x.load(), -1);
    due("which", x.fault(0), 1);
    due("where", x.fault(1), 0);
    loadLoop(x);
  }

  /** A loop that adds up cells 0 to 9, its claim being 0 <= r1 AND r1 <= 10. */
  private static void loadLoop(CodeHarbour x) {
    for (int i = 0; i < 10; i++) {
      x.poke(i, i * i);
    }
    byte[] zero = Forge.bytes(1, Forge.four(0));
    byte[] ten = Forge.bytes(1, Forge.four(10));
    byte[] code = Forge.bytes(80, 0, 9, 0, 2, ins(0, 2, 0, 10), ins(15, 0, 0, 0), ins(0, 2, 0, 10),
        ins(10, 2, 1, 7), ins(6, 3, 1, 0), ins(2, 0, 0, 3), ins(5, 1, 1, 1), ins(15, 0, 0, 1), HALT);
    byte[] claims = Forge.bytes(17, 21, zero, 6, 1, 21, 6, 1, ten, 16);
    // The code falls out of the loop behind one turn; what it shows is the rules of a step.
    byte[] low = Forge.bytes(65, 64, 1);
    byte[] below = Forge.bytes(64, 0);
    byte[] shiftLow = Forge.bytes(40, 2, zero, zero, 36, 45, ten, low, 39, below, 36, 36);
    byte[] shiftHigh = Forge.bytes(41, 2, ten, zero, 46, zero, low, below, 36, 36, 36);
    byte[] part0 = Forge.bytes(33, 36, 36);
    byte[] part1 = Forge.bytes(Forge.any(8), 34, 33, 34, 32, 34, 33, 33, shiftLow, shiftHigh, 35, 32);
    byte[] part2 = Forge.bytes(Forge.any(8), 34, 32);
    due("a step of a loop", load(x, code, claims, part0, part1, part2), 0);
    due("run", x.run(20), 1);
    due("result", x.result(), 0);
    byte[] wrongLow = Forge.bytes(40, 2, zero, zero, 36, 45, zero, low, 39, below, 36, 36);
    byte[] broken = Forge.bytes(Forge.any(8), 34, 33, 34, 32, 34, 33, 33, wrongLow, shiftHigh, 35, 32);
    due("t is below", load(x, code, claims, part0, broken, part2), -1);
    due("which", x.fault(0), 8);
  }

  private static void compile() {
    promise = "6";
    CodeHarbour x = new CodeHarbour();
    due("nothing at all", x.compile(), 0);
    due("its code", x.told(0), 5);
    due("run", x.run(3), 1);
    due("steps", x.steps(), 3);
    due("result", x.result(), 0);
    due("a fault", compile(x, "return"), -1);
    due("none is held", x.told(2), 0);
    due("none is in", x.told(3), 0);
    due("the tape is empty", x.end(1), -1);
    // MARK, LI, LI, MUL, LI, LI, SUB, ADD, HALT: 9, and 5 behind all.
    due("an expression", compile(x, "return 6 * 7 + - 2;"), 0);
    due("its code", x.told(0), 14);
    due("run", x.run(100), 1);
    due("steps", x.steps(), 9);
    due("result", x.result(), 40);
    compileStatements(x);
    compileArrays(x);
  }

  private static void compileStatements(CodeHarbour x) {
    String[] signs = {"<", "<=", "==", "!="};
    int[][] answers = {{1, 0, 0}, {1, 1, 0}, {0, 1, 0}, {1, 0, 1}};
    for (int s = 0; s < 4; s++) {
      for (int v = 1; v <= 3; v++) {
        due("if", compile(x, "if (" + v + signs[s] + "2) { return 1; } else { return 0; }"), 0);
        // MARK, LI, LI, jump, (MARK, LI, HALT), JMP, MARK, (MARK, LI, HALT), MARK, and 5.
        due("its code", x.told(0), 18);
        x.run(100);
        due(v + signs[s] + "2", x.result(), answers[s][v - 1]);
        due("steps", x.steps(), answers[s][v - 1] == 1 ? 7 : 8);
      }
    }
    due("and", compile(x, "if (1 < 2 and 2 < 1) { return 1; } return 2;"), 0);
    x.run(100);
    due("result", x.result(), 2);
    due("while", compile(x, "var n; while (n < 5) { n = n + 1; } return n * n;"), 0);
    due("run", x.run(1000), 1);
    due("result", x.result(), 25);
    x.poke(0, 0);
    // MARK, LI, LD, LI, JLE: 5 a look; MARK, LI, LD, LI, ADD, LI, ST, JMP: 8 a turn;
    // MARK, MARK, LI, LD, LI, LD, MUL, HALT: 8 behind it.
    x.run(1000);
    due("steps", x.steps(), 6 * 5 + 5 * 8 + 8);
    due("for", compile(x, "var s; s = 0; for i = - 3 .. 4 { s = s * 10 + i; } return s;"), 0);
    due("run", x.run(1000), 1);
    due("result", x.result(), -3210000 + 123);
    due("a for of none", compile(x, "for i = 4 .. 4 { return 1; } return 2;"), 0);
    x.run(1000);
    due("result", x.result(), 2);
  }

  private static void compileArrays(CodeHarbour x) {
    String fill = "var s; arr a[5]; for i = 0 .. 5 { a[i] = i * i; } ";
    due("direct", compile(x, fill + "s = 0; for i = 0 .. 4 { s = s + a[i + 1]; } return s;"), 0);
    x.run(2000);
    due("result", x.result(), 30);
    due("cell", x.peek(5), 16);
    due("not direct", compile(x, fill + "return a[2 + 1] * a[a[2]];"), 0);
    x.run(2000);
    due("result", x.result(), 144);
    for (String index : new String[] {"0 - 1", "5", "- 2147483647 - 1", "2147483647"}) {
      due("beyond", compile(x, fill + "return a[" + index + "];"), 0);
      due("it traps", x.run(2000), 2);
      due("with", x.result(), 1);
      due("beyond", compile(x, fill + "a[" + index + "] = 9; return 7;"), 0);
      due("it traps", x.run(2000), 2);
      due("with", x.result(), 1);
    }
    due("to be put", compile(x, fill + "a[1 + 1] = 77; return a[2];"), 0);
    x.run(2000);
    due("result", x.result(), 77);
    due("strays", x.strays(), 0);
  }

  private static void fault() {
    promise = "7";
    CodeHarbour x = new CodeHarbour();
    due("before one", x.fault(0), 0);
    due("its place", x.fault(1), -1);
    compile(x, "return a;");
    due("what", x.fault(0), 3);
    due("where", x.fault(1), 7);
    due("another what", x.fault(2), 0);
    due("another what", x.fault(-1), 0);
    due("another what", x.fault(2147483647), 0);
    x.policy(0, 256, 0, 256);
    x.run(1);
    due("it stays", x.fault(0), 3);
    compile(x, "return 1;");
    due("none", x.fault(0), 0);
    due("its place", x.fault(1), -1);
    load(x, 81);
    due("of a load", x.fault(0), 2);
    due("its place", x.fault(1), 0);
    load(x, 80, 0, 1, 0, 0, HALT, 32);
    due("none", x.fault(0), 0);
    due("its place", x.fault(1), -1);
  }

  private static void run() {
    promise = "8";
    CodeHarbour x = new CodeHarbour();
    due("none is in", x.run(5), -1);
    compile(x, "var n; n = n + 1; return n;");
    due("fuel below 0", x.run(-1), -1);
    due("fuel above 20000", x.run(20001), -1);
    due("nothing is done", x.peek(0), 0);
    due("no steps", x.steps(), 0);
    due("no fuel", x.run(0), 3);
    due("no steps", x.steps(), 0);
    // MARK, LI, LD, LI, ADD, LI, ST; MARK, LI, LD, HALT.
    due("ahead of ST", x.run(6), 3);
    due("cell", x.peek(0), 0);
    due("behind ST", x.run(7), 3);
    due("cell", x.peek(0), 1);
    due("ahead of HALT", x.run(10), 3);
    due("result", x.result(), 0);
    due("HALT", x.run(11), 1);
    due("result", x.result(), 3);
    due("the most fuel", x.run(20000), 1);
    due("result", x.result(), 4);
    due("a failed one", x.run(-5), -1);
    due("leaves the result", x.result(), 4);
    due("and the steps", x.steps(), 11);
    runAllOps(x);
    compile(x, "while (1 < 2) {}");
    due("it never ends", x.run(20000), 3);
    due("steps", x.steps(), 20000);
    due("result", x.result(), 0);
  }

  /** All instructions, by hand; registers are 0 at the beginning of each run. */
  private static void runAllOps(CodeHarbour x) {
    byte[] mark = ins(15, 0, 0, 0);
    byte[] end = Forge.bytes(16, 32, Forge.any(8), 34, 32);
    due("arithmetic", load(x, 80, 0, 9, 0, 0, ins(0, 1, 0, 2147483647), ins(5, 2, 1, 1),
        ins(3, 3, 2, 1), ins(4, 4, 1, 1), ins(2, 0, 3, 4), ins(1, 5, 0, 0), ins(2, 0, 5, 7),
        ins(2, 0, 0, 0), HALT, 32), 0);
    due("run", x.run(9), 1);
    // -2147483648 - 2147483647 = 1; 2147483647 squared = 1; 1 + 1; twice.
    due("result", x.result(), 4);
    for (int op = 8; op <= 12; op++) {
      for (int v = -1; v <= 1; v++) {
        boolean jumps = op == 8 || op == 9 && v < 0 || op == 10 && v <= 0 || op == 11 && v == 0
            || op == 12 && v != 0;
        byte[] jump = op == 8 ? ins(8, 0, 0, 4) : ins(op, 1, 2, 4);
        due("a jump", load(x, 80, 0, 6, 0, 1, ins(0, 1, 0, v), ins(0, 0, 0, 5), jump, ins(14, 0, 0, 99),
            mark, HALT, 16, op == 8 ? Forge.bytes(32) : Forge.bytes(33, 34, 32, 34, 32), Forge.any(8), 34,
            32), 0);
        due("op " + op + " of " + v, x.run(9), jumps ? 1 : 2);
        due("result", x.result(), jumps ? 5 : 99);
        due("steps", x.steps(), jumps ? 5 : 4);
      }
    }
    due("LD and ST", load(x, 80, 0, 6, 0, 0, ins(0, 1, 0, 200), ins(0, 2, 0, 9), ins(7, 2, 1, 55),
        ins(0, 1, 0, 300), ins(6, 0, 1, -45), HALT, 33, 33, 36, 36, 33, 33, 36, 36, 35, 32), 0);
    due("run", x.run(20), 1);
    due("result", x.result(), 9);
    due("cell 255", x.peek(255), 9);
    due("a MARK does nothing", load(x, 80, 0, 2, 0, 1, mark, HALT, end), 0);
    due("run", x.run(2), 1);
    due("result", x.result(), 0);
  }

  private static void watch() {
    promise = "9";
    CodeHarbour x = new CodeHarbour();
    due("none is held", x.watch(5), -1);
    x.policy(10, 20, 12, 18);
    int[][] reads = {{9, 4}, {10, 1}, {19, 1}, {20, 4}, {-1, 4}, {256, 4}, {2147483647, 4}};
    for (int[] r : reads) {
      load(x, 80, 0, 3, 0, 0, ins(0, 1, 0, r[0]), ins(6, 0, 1, 0), HALT, 99);
      due("LD " + r[0], x.watch(3), r[1]);
      due("its cell", x.result(), r[1] == 4 ? r[0] : 0);
      due("steps", x.steps(), r[1] == 4 ? 1 : 3);
      due("the fuel ends ahead of it", x.watch(1), 3);
      due("result", x.result(), 0);
      due("steps", x.steps(), 1);
    }
    int[][] writes = {{11, 5}, {12, 1}, {17, 1}, {18, 5}, {-2147483648, 5}, {10, 5}};
    for (int[] w : writes) {
      x.poke(w[0], 3);
      load(x, 80, 0, 3, 0, 0, ins(0, 1, 0, w[0]), ins(7, 1, 1, 0), HALT, 99);
      due("ST " + w[0], x.watch(3), w[1]);
      due("its cell", x.result(), w[1] == 5 ? w[0] : 0);
      due("the cell itself", x.peek(w[0]), w[1] == 5 ? w[0] < 0 ? 0 : 3 : w[0]);
    }
    // b + n wraps.
    load(x, 80, 0, 3, 0, 0, ins(0, 1, 0, 2147483647), ins(6, 0, 1, -2147483634), HALT, 99);
    due("it may be read", x.watch(9), 1);
    load(x, 80, 0, 3, 0, 0, ins(0, 1, 0, 2147483647), ins(6, 0, 1, 1), HALT, 99);
    due("it may not", x.watch(9), 4);
    due("its cell", x.result(), -2147483648);
    due("fuel below 0", x.watch(-1), -1);
    due("fuel above", x.watch(20001), -1);
    due("nothing is done", x.steps(), 1);
    due("no fuel", x.watch(0), 3);
    due("no step", x.steps(), 0);
    due("strays", x.strays(), 0);
    compile(x, "return 5;");
    due("code that is in", x.watch(9), 1);
    due("result", x.result(), 5);
  }

  private static void resultAndSteps() {
    promise = "10 and 11";
    CodeHarbour x = new CodeHarbour();
    due("before one", x.result(), 0);
    due("before one", x.steps(), 0);
    load(x, 80, 0, 2, 0, 0, ins(0, 0, 0, -7), HALT, 32);
    x.run(5);
    due("register 0", x.result(), -7);
    due("steps", x.steps(), 2);
    load(x, 80, 0, 2, 0, 0, ins(0, 0, 0, -7), ins(14, 0, 0, 42), 32);
    due("a load leaves it", x.result(), -7);
    due("a load leaves it", x.steps(), 2);
    due("run", x.run(2), 2);
    due("the TRAP's n", x.result(), 42);
    due("steps", x.steps(), 2);
    x.run(1);
    due("out of fuel", x.result(), 0);
    due("steps", x.steps(), 1);
    x.watch(2);
    due("watched", x.result(), 42);
    x.policy(0, 256, 0, 256);
    due("a policy leaves it", x.result(), 42);
    due("run", x.run(1), -1);
    due("what was not done leaves it", x.result(), 42);
    due("what was not done leaves it", x.steps(), 2);
  }

  private static void pokeAndPeek() {
    promise = "12 and 13";
    CodeHarbour x = new CodeHarbour();
    due("poke", x.poke(0, 5), 0);
    due("poke", x.poke(0, -6), 5);
    due("peek", x.peek(0), -6);
    due("poke", x.poke(255, 2147483647), 0);
    due("peek", x.peek(255), 2147483647);
    for (int cell : new int[] {-1, 256, -2147483648, 2147483647}) {
      due("no such cell", x.poke(cell, 9), 0);
      due("no such cell", x.peek(cell), 0);
    }
    x.policy(3, 3, 3, 3);
    due("the policy is not for it", x.poke(7, 1), 0);
    due("the policy is not for it", x.peek(7), 1);
    due("cells stay", x.peek(0), -6);
  }

  private static void told() {
    promise = "14";
    CodeHarbour x = new CodeHarbour();
    // PART 0: 1. PART 1: 8 ALL, IF-THEN, 1, 1.
    load(x, 80, 0, 2, 0, 1, ins(15, 0, 0, 0), HALT, 16, 32, Forge.any(8), 34, 32);
    due("instructions", x.told(0), 2);
    due("nodes", x.told(1), 12);
    due("held", x.told(2), 1);
    due("in", x.told(3), 1);
    due("came in", x.told(4), 1);
    // LD: AND, AND, <=, rlo, +, 0, n, <, +, 0, n, rhi, ALL, TRUE.
    load(x, 80, 0, 2, 0, 0, ins(6, 0, 1, 3), HALT, 99);
    due("nodes of LD", x.told(1), 14);
    due("did not", x.told(5), 1);
    // ST of a cell at 0 + 1: AND, AND, <=, wlo, ((0 + 1) + n), <, the same, whi; TRUE.
    load(x, 80, 0, 3, 0, 0, ins(5, 1, 1, 1), ins(7, 0, 1, 3), HALT, 99);
    due("nodes of ST", x.told(1), 2 + 1 + 1 + 5 + 1 + 5 + 1 + 1);
    // JLT: AND, IF-THEN, <, 0, 0, claim, IF-THEN, <=, 0, 0, TRUE; the claim is r0 = r1.
    load(x, 80, 0, 4, 0, 1, ins(9, 2, 3, 2), HALT, ins(15, 0, 0, 0), HALT, 22, 6, 0, 6, 1, 99);
    due("nodes of JLT", x.told(1), 10 + 3 + 9 + 3 + 1);
    due("came in", x.told(4), 1);
    due("did not", x.told(5), 3);
    load(x, 80, 0, 1, 0, 0, HALT);
    due("nodes of one that was cut", x.told(1), 0);
    load(x, 80, 0, 1, 0, 0, HALT, 32);
    due("nodes", x.told(1), 1);
    due("policy", x.policy(0, 256, 0, 256), 0);
    due("nodes stay", x.told(1), 1);
    due("instructions do not", x.told(0), 0);
    compile(x, "return 1;");
    due("nodes behind a compile", x.told(1), 0);
    due("compiled", x.told(6), 1);
    load(x, 80, 0, 1, 0, 0, HALT, 32, 32);
    due("nodes with fault 9", x.told(1), 1);
    compile(x, "return;");
    due("nodes behind a compile", x.told(1), 0);
    due("did not compile", x.told(7), 1);
    due("came in", x.told(4), 2);
    due("did not", x.told(5), 5);
    due("another what", x.told(8), 0);
    due("another what", x.told(-1), 0);
    due("another what", x.told(-2147483648), 0);
  }

  private static void strays() {
    promise = "15";
    CodeHarbour x = new CodeHarbour();
    x.policy(2, 6, 3, 5);
    compile(x, "arr a[2]; for i = 0 .. 2 { a[i] = a[1 - i] + 1; } return a[1];");
    for (int fuel = 0; fuel < 60; fuel += 7) {
      x.run(fuel);
      due("strays", x.strays(), 0);
    }
    load(x, 80, 0, 2, 0, 0, ins(7, 0, 1, 0), HALT, 99);
    due("watched", x.watch(9), 5);
    due("strays", x.strays(), 0);
  }

  private static void digest() {
    promise = "16";
    CodeHarbour x = new CodeHarbour();
    int[] cells = new int[256];
    cells[0] = -1;
    cells[7] = 2147483647;
    cells[255] = 77;
    x.poke(0, -1);
    x.poke(7, 2147483647);
    x.poke(255, 77);
    due("cells", x.digest(), digestOf(cells, 0, 0, 0, 0, 0, 0, 0, 0, 0, 0));
    compile(x, "return - 4;");
    x.run(100);
    // MARK, LI, LI, SUB, HALT, and 5.
    due("a run", x.digest(), digestOf(cells, -4, 5, 10, 0, 1, 1, 0, 0, 1, 0));
    load(x, 80, 0, 2, 0, 1, ins(15, 0, 0, 0), HALT, 16, 33);
    due("a load", x.digest(), digestOf(cells, -4, 5, 2, 12, 1, 0, 0, 1, 1, 0));
    compile(x, "}");
    due("a compile", x.digest(), digestOf(cells, -4, 5, 0, 0, 0, 0, 0, 1, 1, 1));
    due("it changes nothing", x.digest(), x.digest());
  }

  public static void main(String[] args) {
    newObject();
    feed();
    end();
    policy();
    load();
    compile();
    fault();
    run();
    watch();
    resultAndSteps();
    pokeAndPeek();
    told();
    strays();
    digest();
    System.out.println(wrong == 0 ? "all answers are as due" : wrong + " answers are not as due");
    if (wrong != 0) {
      System.exit(1);
    }
  }
}

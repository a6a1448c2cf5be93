/** Part 6 of the document, cells, DIRECT accesses and CODE, by numbers of instructions and steps,
    and results. */
public final class Part6Code {
  private static final int LEAST = Wire.LEAST;
  private static final int MOST = Wire.MOST;
  // Behind all: MARK, LI, HALT, MARK, TRAP; three of them are steps when the code comes to its end.
  private static final int END = 5;
  private static final int LAST_STEPS = 3;

  /** A return of e is a MARK, E(e, 0) and HALT. */
  private static void returns(String declarations, String e, int code, int result) {
    Ledger.runs(declarations + "return " + e + ";", 2 + code + END, 1, result, 2 + code);
  }

  private static void expressions() {
    Ledger.sentence("Part 6", "Behind all: MARK, LI 0 0, HALT, T: MARK, TRAP 1");
    Ledger.runs("", END, 1, 0, LAST_STEPS);
    Ledger.sentence("Part 6", "E(e, k): a number: LI k n");
    returns("", "0", 1, 0);
    returns("", "2147483647", 1, MOST);
    Ledger.sentence("Part 6", "E(e, k): a var at cell c: LI k 0, LD k k c");
    returns("var a;", "a", 2, 0);
    CodeHarbour x = Ledger.runs("var a; var b; a = 3; b = 4; return b;", 4 + 4 + 4 + END, 1, 4, 12);
    Ledger.due("cell 0", x.peek(0), 3);
    Ledger.sentence("Part 6", "E(e, k): a loop variable: MOV k r");
    // MARK, LI, MARK, LI, JLE, then MARK, MOV, HALT, then ADDI, JMP, MARK.
    Ledger.runs("for i = 3 .. 4 { return i; }", 11 + END, 1, 3, 8);
    Ledger.sentence("Part 6", "E(e, k): x + y: E(x, k), E(y, k + 1), ADD k k k+1; - and * likewise");
    returns("", "7 + 5", 3, 12);
    returns("", "7 - 5", 3, 2);
    returns("", "7 * 5", 3, 35);
    returns("", "20 - 7 - 5", 5, 8);
    returns("", "20 - 7 + 5", 5, 18);
    returns("", "2 * 3 * 4", 5, 24);
    returns("", "2 + 3 * 4", 5, 14);
    returns("", "2 * 3 + 4", 5, 10);
    returns("", "20 - 3 * 4 - 5", 7, 3);
    returns("", "(2 + 3) * 4", 5, 20);
    returns("", "20 - (7 - 5)", 5, 18);
    returns("", "1 - (2 - (3 - (4 - 5)))", 9, 3);
    returns("", "((((1))))", 1, 1);
    Ledger.sentence("Part 6", "E(e, k): - f: LI k 0, E(f, k + 1), SUB k k k+1");
    returns("", "- 7", 3, -7);
    returns("", "- - 7", 5, 7);
    returns("", "- 2 * 3", 5, -6);
    returns("", "2 * - 3", 5, -6);
    returns("", "1 - - 1", 5, 2);
    returns("", "- (1 + 2)", 5, -3);
    returns("", "- 2 - 3", 5, -5);
    Ledger.sentence("Terms", "All numbers are ints and wrap: what sources reckon");
    returns("", "2147483647 + 1", 3, LEAST);
    returns("", "- 2147483647 - 1", 5, LEAST);
    returns("", "- 2147483647 - 2", 5, MOST);
    returns("", "65536 * 65536", 3, 0);
    returns("", "2147483647 * 2147483647", 3, 1);
    returns("", "- (- 2147483647 - 1)", 7, LEAST);
  }

  /** What is behind the declarations is one access a [ index ], with so many instructions for its index. */
  private static void reads(int index, String e, int code, int ends) {
    CodeHarbour x = new CodeHarbour();
    for (int i = 0; i < 8; i++) {
      x.poke(i, 100 + i);
    }
    String text = "var v; arr a[4]; var w; return a[" + e + "];";
    Ledger.source(x, text, 0, -1);
    Ledger.due(text + ": told(0)", x.told(0), 2 + code + 5 + END);
    Ledger.due(text + ": run()", x.run(100), ends);
    Ledger.due(text + ": result()", x.result(), ends == 1 ? 101 + index : 1);
    // MARK, E, LI, JLT: below 0 it is over; then LI, JLE; then LD, HALT. MARK, TRAP where it is over.
    Ledger.due(text + ": steps()", x.steps(), 1 + code + (ends == 1 ? 6 : index < 0 ? 4 : 6));
    Ledger.due(text + ": watch()", x.watch(100), ends);
    text = "var v; arr a[4]; var w; a[" + e + "] = 9;";
    Ledger.source(x, text, 0, -1);
    // MARK, E, LI, JLT, LI, JLE, LI, ST.
    Ledger.due(text + ": told(0)", x.told(0), 1 + code + 6 + END);
    Ledger.due(text + ": run()", x.run(100), ends);
    Ledger.due(text + ": result()", x.result(), ends == 1 ? 0 : 1);
    Ledger.due(text + ": steps()", x.steps(), 1 + code + (ends == 1 ? 6 + LAST_STEPS : index < 0 ? 4 : 6));
    for (int i = 0; i < 8; i++) {
      Ledger.due(text + ": cell " + i, x.peek(i), ends == 1 && i == 1 + index ? 9 : 100 + i);
    }
    Ledger.due(text + ": strays()", x.strays(), 0);
  }

  private static void accesses() {
    Ledger.sentence("Part 6",
        "name [ e ], the arr from cell c on, of m: E(e, k), LI k+1 0, JLT k k+1 T, LI k+1 m, JLE k+1 k T, LD"
        + " k k c; name [ x ] = e: MARK, E(x, 0), LI 1 0, JLT 0 1 T, LI 1 m, JLE 1 0 T, E(e, 1), ST 1 0 c");
    reads(0, "0", 1, 1);
    reads(1, "1", 1, 1);
    reads(3, "3", 1, 1);
    reads(4, "4", 1, 2);
    reads(5, "5", 1, 2);
    reads(MOST, "2147483647", 1, 2);
    reads(-1, "- 1", 3, 2);
    reads(-1, "0 - 1", 3, 2);
    reads(LEAST, "- 2147483647 - 1", 5, 2);
    reads(LEAST, "2147483647 + 1", 3, 2);
    reads(2, "1 + 1", 3, 1);
    reads(0, "(0)", 1, 1);
    Ledger.runs("arr a[1]; return a[0];", 2 + 6 + END, 1, 0, 8);
    Ledger.runs("arr a[1]; return a[1];", 2 + 6 + END, 2, 1, 8);
    Ledger.runs("arr a[64]; a[63] = 8; return a[63];", 8 + 8 + END, 1, 8, 16);
    Ledger.runs("arr a[64]; return a[64];", 8 + END, 2, 1, 8);
    // a[a[a[0]]] with 0 in all of them; a[0] - (a[1] - (a[2] - 4)) with 1, 2, 3.
    Ledger.runs("arr a[4]; return a[a[a[0]]];", 2 + 1 + 15 + END, 1, 0, 18);
    Ledger.runs("arr a[4]; a[0] = 1; a[1] = 2; a[2] = 3; return a[0] - (a[1] - (a[2] - 4));", 24 + 24 + END,
        1, -2, 48);
    Ledger.runs("arr a[4]; a[a[0] + 1] = a[0] + 7; return a[1];", 1 + 8 + 4 + 8 + 1 + 8 + END, 1, 7, 30);
    // The index of what is put is looked at ahead of e.
    Ledger.runs("arr a[4]; a[4] = a[9];", 1 + 1 + 4 + 6 + 1 + END, 2, 1, 8);
  }

  private static void cells() {
    Ledger.sentence("Part 6",
        "Cells are given in order, from wlo on: one for a var, as many as its number says for an arr");
    for (int wlo : new int[] {0, 1, 10, 248}) {
      CodeHarbour x = new CodeHarbour();
      x.policy(0, 256, wlo, wlo + 8);
      Ledger.source(x,
          "var a; arr b[3]; var c; arr d[2]; var e; a = 1; b[0] = 2; b[1] = 3; b[2] = 4; c = 5; d[0] = 6;"
          + " d[1] = 7; e = 8;", 0, -1);
      Ledger.due("run()", x.run(1000), 1);
      for (int i = 0; i < 256; i++) {
        Ledger.due("cell " + i, x.peek(i), i >= wlo && i < wlo + 8 ? i - wlo + 1 : 0);
      }
      Ledger.source(x,
          "var a; arr b[3]; var c; arr d[2]; var e; return a + 10 * b[0] + 100 * b[2] + 1000 * c + 10000 *"
          + " d[1];", 0, -1);
      Ledger.due("run()", x.run(1000), 1);
      Ledger.due("result()", x.result(), 1 + 20 + 400 + 5000 + 70000);
    }
    Ledger.sentence("Part 6", "name = e: MARK, E(e, 0), LI 1 0, ST 0 1 c");
    CodeHarbour x = Ledger.runs("var a; var b; b = 5;", 4 + END, 1, 0, 4 + LAST_STEPS);
    Ledger.due("cell 1", x.peek(1), 5);
    Ledger.due("a run that ends ahead of ST", x.run(3), 3);
    x.poke(1, 0);
    x.run(3);
    Ledger.due("cell 1", x.peek(1), 0);
    x.run(4);
    Ledger.due("cell 1", x.peek(1), 5);
  }

  /** For bounds and an index, whether it is DIRECT; in the code E of the index takes so much,
      if it is not. */
  private static void direct(String low, String high, String index, int code, boolean isDirect) {
    String loop = "var u; arr b[3]; arr a[4]; for i = " + low + " .. " + high + " { ";
    String put = loop + "a[" + index + "] = 1; }";
    String read = loop + "return a[" + index + "]; }";
    // for: MARK, LI, MARK, LI, JLE, .., ADDI, JMP, MARK.
    Ledger.due(put + ": told(0)", Ledger.well(put).told(0), 8 + (isDirect ? 3 : 7 + code) + END);
    Ledger.due(read + ": told(0)", Ledger.well(read).told(0), 8 + (isDirect ? 3 : 7 + code) + END);
  }

  private static void directness() {
    Ledger.sentence("Part 6",
        "An access name [ e ] is DIRECT, if e is a loop variable alone, and lo and hi are not below 0 and"
        + " not above the arr's number");
    direct("0", "4", "i", 1, true);
    direct("0", "5", "i", 1, false);
    direct("- 1", "4", "i", 1, false);
    direct("3", "4", "i", 1, true);
    direct("4", "4", "i", 1, true);
    direct("4", "5", "i", 1, false);
    direct("5", "5", "i", 1, false);
    direct("0", "0", "i", 1, true);
    direct("- 1", "- 1", "i", 1, false);
    direct("- 1", "0", "i", 1, false);
    direct("- 100000", "100000", "i", 1, false);
    Ledger.sentence("Part 6",
        "DIRECT: or with + or - a number behind it and nothing else, and lo and hi, so much more or less");
    direct("0", "3", "i + 1", 3, true);
    direct("0", "4", "i + 1", 3, false);
    direct("- 1", "3", "i + 1", 3, true);
    direct("- 2", "3", "i + 1", 3, false);
    direct("1", "5", "i - 1", 3, true);
    direct("0", "5", "i - 1", 3, false);
    direct("1", "6", "i - 1", 3, false);
    direct("0", "4", "i + 0", 3, true);
    direct("0", "4", "i - 0", 3, true);
    direct("0", "5", "i + 0", 3, false);
    direct("- 100000", "- 99996", "i + 100000", 3, true);
    direct("- 100000", "- 99996", "i + 100001", 3, false);
    direct("- 100000", "- 99996", "i + 99999", 3, false);
    direct("99996", "100000", "i - 99996", 3, true);
    direct("99996", "100000", "i - 99997", 3, false);
    direct("99996", "100000", "i - 99995", 3, false);
    direct("0", "4", "i + 2147483647", 3, false);
    direct("0", "4", "i - 2147483647", 3, false);
    direct("1", "1", "i + 2147483647", 3, false);
    direct("- 100000", "- 100000", "i - 2147483647", 3, false);
    for (String index : new String[] {"1 + i", "i * 1", "i + u", "i + (1)", "u + 1", "i - i"}) {
      int code = index.contains("u") ? 4 : 3;
      direct("0", "2", index, code, false);
    }
    direct("0", "2", "(i)", 1, false);
    direct("0", "2", "(i + 1)", 3, false);
    direct("0", "2", "(i) + 1", 3, false);
    direct("0", "2", "- i", 3, false);
    direct("0", "2", "i + 1 + 0", 5, false);
    direct("0", "2", "i + 1 * 1", 5, false);
    direct("0", "2", "i + - 1", 5, false);
    direct("0", "2", "i - - 1", 5, false);
    direct("0", "2", "1", 1, false);
    direct("0", "2", "u", 2, false);
  }

  private static void directRuns() {
    Ledger.sentence("Part 6", "DIRECT: LD k r c + (+ or - the number); DIRECT: MARK, E(e, 0), ST 0 r c + ..");
    // MARK, LI; each turn MARK, LI, JLE, then MARK, MOV, ST, then ADDI, JMP; then MARK, LI, JLE, MARK.
    CodeHarbour x = Ledger.runs("var u; arr a[4]; for i = 0 .. 4 { a[i] = i; }", 11 + END, 1, 0,
        2 + 4 * 8 + 4 + LAST_STEPS);
    for (int i = 0; i < 6; i++) {
      Ledger.due("cell " + i, x.peek(i), i >= 1 && i < 5 ? i - 1 : 0);
    }
    x = Ledger.runs("var u; arr a[4]; for i = - 2 .. 2 { a[i + 2] = i; }", 11 + END, 1, 0,
        2 + 4 * 8 + 4 + LAST_STEPS);
    for (int i = 0; i < 6; i++) {
      Ledger.due("cell " + i, x.peek(i), i >= 1 && i < 5 ? i - 3 : 0);
    }
    x = Ledger.runs("var u; arr a[4]; for i = 7 .. 11 { a[i - 7] = i; }", 11 + END, 1, 0,
        2 + 4 * 8 + 4 + LAST_STEPS);
    for (int i = 0; i < 6; i++) {
      Ledger.due("cell " + i, x.peek(i), i >= 1 && i < 5 ? i + 6 : 0);
    }
    for (int i = 0; i < 6; i++) {
      x.poke(i, 50 + i);
    }
    Ledger.source(x, "var u; arr a[4]; for i = 2 .. 5 { return a[i - 1]; }", 0, -1);
    x.run(100);
    Ledger.due("a[2 - 1]", x.result(), 52);
    Ledger.due("steps()", x.steps(), 8);
    Ledger.source(x, "var u; arr a[4]; for i = - 3 .. 1 { return a[i + 3]; }", 0, -1);
    x.run(100);
    Ledger.due("a[- 3 + 3]", x.result(), 51);
    Ledger.sentence("Part 6",
        "it lies in register 5, in a for within a for 6, then 7; lo and hi are its bounds");
    x = Ledger.well("arr a[2]; arr b[3]; arr c[4]; var n; for i = 0 .. 2 { for j = 0 .. 3 { for k = 0 .. 4 {"
        + " a[i] = 100 + i; b[j] = 200 + j; c[k] = 300 + k; n = n + 1; } } }");
    Ledger.due("run()", x.run(20000), 1);
    int[] due = {100, 101, 200, 201, 202, 300, 301, 302, 303, 24};
    for (int i = 0; i < due.length; i++) {
      Ledger.due("cell " + i, x.peek(i), due[i]);
    }
    x = Ledger.well("var s; for i = 1 .. 3 { for j = 4 .. 6 { for k = 7 .. 9 { s = s * 3 + i * 100 + j * 10"
        + " + k; } } } for k = 0 .. 2 { s = s + k; } return s;");
    Ledger.due("run()", x.run(20000), 1);
    int s = 0;
    for (int i = 1; i < 3; i++) {
      for (int j = 4; j < 6; j++) {
        for (int k = 7; k < 9; k++) {
          s = s * 3 + i * 100 + j * 10 + k;
        }
      }
    }
    Ledger.due("result()", x.result(), s + 1);
  }

  private static void comparison(String sign, int x, int y, boolean holds) {
    String left = x < 0 ? "- 2147483647 - 1" : Integer.toString(x);
    String right = y < 0 ? "- 2147483647 - 1" : Integer.toString(y);
    int code = (x < 0 ? 5 : 1) + (y < 0 ? 5 : 1);
    // MARK, E, E, jump, (MARK, LI, HALT), JMP, MARK, (MARK, LI, HALT), MARK.
    Ledger.runs("if (" + left + sign + right + ") { return 1; } else { return 2; }",
        1 + code + 1 + 3 + 1 + 1 + 3 + 1 + END, 1, holds ? 1 : 2, 1 + code + 1 + (holds ? 3 : 4));
  }

  private static void comparisons() {
    Ledger.sentence("Part 6",
        "C(L), for each comparison: E(x, 0), E(y, 1), then for < JLE 1 0 L; <= JLT 1 0 L; == JNE 0 1 L; !="
        + " JEQ 0 1 L");
    int[][] pairs = {{1, 2}, {2, 2}, {3, 2}, {LEAST, MOST}, {MOST, LEAST}, {0, MOST}, {LEAST, 0}};
    for (int[] p : pairs) {
      comparison("<", p[0], p[1], p[0] < p[1]);
      comparison("<=", p[0], p[1], p[0] <= p[1]);
      comparison("==", p[0], p[1], p[0] == p[1]);
      comparison("!=", p[0], p[1], p[0] != p[1]);
    }
    Ledger.sentence("Part 6", "c: comparisons joined by and: the first that does not hold goes to L");
    for (int i = 0; i < 8; i++) {
      boolean a = (i & 1) != 0;
      boolean b = (i & 2) != 0;
      boolean c = (i & 4) != 0;
      String text = "if (" + (a ? "1<2" : "2<1") + " and " + (b ? "1==1" : "1==2") + " and " + (c ? "1!=2"
          : "1!=1") + ") { return 1; } return 2;";
      int looked = !a ? 1 : !b ? 2 : 3;
      boolean all = a && b && c;
      // MARK, three times 3, (MARK, LI, HALT), JMP, MARK, MARK; MARK, LI, HALT.
      Ledger.runs(text, 1 + 9 + 3 + 3 + 3 + END, 1, all ? 1 : 2, 1 + 3 * looked + (all ? 3 : 5));
    }
  }

  private static void statements() {
    Ledger.sentence("Part 6", "if: MARK, C(L), block, JMP N, L: MARK, else's block, N: MARK");
    Ledger.runs("if (1 < 2) {}", 7 + END, 1, 0, 6 + LAST_STEPS);
    Ledger.runs("if (2 < 1) {}", 7 + END, 1, 0, 6 + LAST_STEPS);
    Ledger.runs("if (1 < 2) {} else {}", 7 + END, 1, 0, 6 + LAST_STEPS);
    Ledger.runs("var a; if (1 < 2) { a = 1; } else { a = 2; a = 3; } return a;", 7 + 12 + 4 + END, 1, 1,
        4 + 4 + 2 + 4);
    Ledger.runs("var a; if (2 < 1) { a = 1; } else { a = 2; a = 3; } return a;", 7 + 12 + 4 + END, 1, 3,
        4 + 1 + 8 + 1 + 4);
    Ledger.sentence("Part 6", "while: L: MARK, C(N), block, JMP L, N: MARK");
    Ledger.runs("while (2 < 1) {}", 6 + END, 1, 0, 5 + LAST_STEPS);
    // MARK, LI, LD, LI, JLE; MARK, LI, LD, LI, ADD, LI, ST, JMP.
    Ledger.runs("var n; while (n < 3) { n = n + 1; } return n;", 5 + 8 + 1 + 4 + END, 1, 3,
        4 * 5 + 3 * 8 + 1 + 4);
    CodeHarbour x = Ledger.well("while (1 < 2) {}");
    Ledger.due("run()", x.run(20000), 3);
    Ledger.sentence("Part 6",
        "for: MARK, LI r lo, L: MARK, LI 0 hi, JLE 0 r N, block, ADDI r r 1, JMP L, N: MARK");
    Ledger.runs("for i = 0 .. 0 {}", 8 + END, 1, 0, 2 + 3 + 1 + LAST_STEPS);
    Ledger.runs("for i = 0 .. 1 {}", 8 + END, 1, 0, 2 + 5 + 3 + 1 + LAST_STEPS);
    Ledger.runs("for i = - 2 .. 1 {}", 8 + END, 1, 0, 2 + 3 * 5 + 3 + 1 + LAST_STEPS);
    Ledger.runs("for i = 99998 .. 100000 {}", 8 + END, 1, 0, 2 + 2 * 5 + 3 + 1 + LAST_STEPS);
    Ledger.runs("var s; for i = - 3 .. 4 { s = s * 10 + i; } return s;", 8 + 9 + 4 + END, 1, -3209877,
        2 + 7 * (5 + 9) + 3 + 1 + 4);
    Ledger.sentence("Part 6", "return e: MARK, E(e, 0), HALT");
    Ledger.runs("return 1; return 2;", 6 + END, 1, 1, 3);
    Ledger.runs("if (1 < 2) { return 3; } return 4;", 10 + 3 + END, 1, 3, 7);
    Ledger.runs("while (1 < 2) { for i = 0 .. 9 { return i + 5; } }", 6 + 8 + 5 + END, 1, 5, 4 + 5 + 5);
  }

  private static void claims() {
    Ledger.sentence("Part 6", "The MARKS have claims with which the package comes in");
    String[] bodies = {
      "a[i] = a[j + 1] + c[k];", "while (v < 2) { a[i] = v; v = v + 1; }",
          "if (a[i] < c[k]) { c[k] = 1; } else { a[j] = 2; }",
          "if (1 < 2) { while (v < 2) { v = v + 1; a[i] = a[j]; } } a[j + 1] = c[k];",
          "v = a[c[k]]; a[v] = c[k];", "if (a[v] < a[i] and c[k] == a[j] and c[v] != a[i]) { a[i] = 1; }",
          "v = v + 1;", "return a[i] + c[k];", };
    int[][] policies = {{0, 256, 0, 256}, {0, 256, 200, 256}, {9, 30, 10, 30}, {3, 14, 3, 14}};
    for (String body : bodies) {
      for (int[] p : policies) {
        CodeHarbour x = new CodeHarbour();
        x.policy(p[0], p[1], p[2], p[3]);
        String text = "arr a[4]; var v; arr c[6]; for i = 0 .. 4 { for j = 0 .. 3 { for k = 2 .. 6 { " + body
            + " } a[j] = i; } for k = 1 .. 2 { a[i] = c[k]; } } for i = 0 .. 6 { c[i] = c[i] + 1; }";
        Ledger.source(x, text, 0, -1);
        int ends = x.run(20000);
        Ledger.due(text + ": it ends well", ends == 1 || ends == 2 || ends == 3 ? 1 : 0, 1);
        Ledger.due(text + ": strays()", x.strays(), 0);
        int result = x.result();
        int steps = x.steps();
        for (int i = 0; i < 256; i++) {
          x.poke(i, 0);
        }
        Ledger.due(text + ": watch()", x.watch(20000), ends);
        Ledger.due(text + ": watched result()", x.result(), result);
        Ledger.due(text + ": watched steps()", x.steps(), steps);
      }
    }
    Ledger.due("three fors and fors behind them",
        Ledger.well("for i = 0 .. 1 { for j = 0 .. 1 { for k = 0 .. 1 {} for k = 1 .. 2 {} } for j = - 1 .."
        + " 5 {} } for i = 0 .. 1 {}").told(0), 6 * 8 + END);
  }

  public static void main(String[] args) {
    expressions();
    accesses();
    cells();
    directness();
    directRuns();
    comparisons();
    statements();
    claims();
    Ledger.close();
  }
}

import java.util.ArrayList;
import java.util.List;

/** Every rule on many a W, whether it suits or not, and what a path lets be shown. */
public final class RuleShapes {
  private static int wrong = 0;
  private static int loads = 0;
  private static int in = 0;

  private static int load(String what, byte[] bytes) {
    Both both = new Both();
    both.bring(bytes);
    both.load();
    loads++;
    if (both.wrong) {
      wrong++;
      System.out.println("so it was at: " + what);
    }
    in += both.real.fault(0) == 0 ? 1 : 0;
    return both.real.fault(0);
  }

  private static void due(String what, byte[] bytes, int fault) {
    int got = load(what, bytes);
    if (got != fault) {
      wrong++;
      System.out.println(what + ": fault " + got + ", due is " + fault);
    }
  }

  private static Model.Node two(int op, Model.Node x, Model.Node y) {
    return Model.two(op, x, y);
  }

  private static List<Model.Node> terms() {
    Model.Node v = Model.var(0);
    Model.Node w = Model.var(1);
    Model.Node one = Model.num(1);
    return List.of(v, w, one, Model.num(0), two(2, v, one), two(2, one, v), two(2, v, w), two(2, w, v),
        two(3, v, w), two(2, two(3, v, w), w), two(2, two(3, v, w), v), two(2, two(2, v, w), one),
        two(2, v, two(2, w, one)), two(2, w, two(2, v, one)), two(4, v, w), two(2, w, one));
  }

  private static byte[] operands(int tag, Model.Node w) {
    Model.Node t = Model.var(1);
    Model.Node u = Model.var(0);
    return switch (tag) {
      case 38 -> Forge.bytes(Model.shift(w, 1, 0), t, u);
      case 40, 41, 42, 44, 45, 46, 52, 68 -> Forge.bytes(t);
      case 53, 56 -> Forge.bytes(t, u);
      case 64 -> Forge.bytes(0);
      default -> new byte[0];
    };
  }

  /** What follows a tag is a hypothesis that is none, so that a fault of 8 is the tag's own. */
  private static void relations() {
    for (Model.Node x : terms()) {
      for (Model.Node y : terms()) {
        for (int op = 20; op <= 24; op++) {
          Model.Node w = two(op, x, y);
          for (int tag = 32; tag <= 68; tag++) {
            byte[] d = Forge.bytes(35, 35, tag, operands(tag, w), 64, 0);
            load("rule " + tag + " of " + w, Forge.packed(Model.all(Model.all(w)), d));
          }
        }
      }
    }
  }

  private static void formulas() {
    Model.Node eq = two(22, Model.var(0), Model.var(1));
    List<Model.Node> some = List.of(Model.TRUE, two(17, eq, eq), two(18, eq, eq),
        Model.all(Model.shift(eq, 1, 0)), eq, two(17, Model.TRUE, eq), two(18, Model.TRUE, Model.TRUE));
    for (Model.Node w : some) {
      for (int tag = 0; tag < 256; tag++) {
        byte[] d = Forge.bytes(35, 35, tag, operands(tag, w), 64, 0);
        load("rule " + tag + " of " + w, Forge.packed(Model.all(Model.all(w)), d));
      }
    }
    // What is told, of each against each: hypothesis A, wanted B.
    List<Model.Node> told = new ArrayList<>(some);
    for (Model.Node f : List.copyOf(told)) {
      told.add(Model.all(Model.all(Model.shift(f, 2, 0))));
      told.add(Model.all(f));
    }
    Model.Node inOrder = two(20, Model.var(1), Model.var(0));
    Model.Node turned = two(20, Model.var(0), Model.var(1));
    Model.Node both = two(20, Model.var(0), Model.var(0));
    Model.Node around = two(20, Model.var(0), Model.var(2));
    for (Model.Node f : List.of(inOrder, turned, both, around)) {
      told.add(Model.all(Model.all(f)));
      told.add(Model.all(f));
      told.add(two(17, Model.all(Model.TRUE), Model.all(Model.all(f))));
    }
    for (Model.Node a : told) {
      for (Model.Node b : told) {
        for (byte[] how : List.of(Forge.bytes(64, 0), Forge.bytes(65, 64, 0), Forge.bytes(66, 64, 0),
            Forge.bytes(67, 64, 0, 64, 0), Forge.bytes(68, 5, 1, 64, 0), Forge.bytes(68, 5, 2, 64, 0),
            Forge.bytes(68, 5, 1, 68, 5, 2, 64, 0), Forge.bytes(68, 5, 1, 66, 64, 0))) {
          load("told " + a + ", wanted " + b, Forge.packed(Model.all(Model.all(two(18, a, b))),
              Forge.bytes(35, 35, 34, how)));
        }
      }
    }
  }

  private static final byte[] HALT = Forge.ins(13, 0, 0, 0);

  /** A MARK of r1 <= r2, a jump to a MARK of TRUE, then another claim that the jump must show. */
  private static void branches() {
    int[][] passed = {{9, 21, 2, 1}, {10, 20, 2, 1}, {11, 23, 1, 2}, {12, 22, 1, 2}};
    int[][] taken = {{9, 20, 1, 2}, {10, 21, 1, 2}, {11, 22, 1, 2}, {12, 23, 1, 2}};
    for (int i = 0; i < 4; i++) {
      for (int op = 20; op <= 23; op++) {
        for (int turn = 0; turn < 2; turn++) {
          int x = 1 + turn;
          int y = 2 - turn;
          byte[] claim = Forge.bytes(op, 6, x, 6, y);
          int[] p = passed[i];
          boolean well = p[1] == op && p[2] == x;
          byte[] code = Forge.bytes(Forge.ins(15, 0, 0, 0), Forge.ins(p[0], 1, 2, 3),
              Forge.ins(15, 0, 0, 1), Forge.ins(15, 0, 0, 0), HALT);
          byte[] end = Forge.bytes(Forge.any(8), 34, 32);
          due("passed " + p[0] + " shows " + op, Forge.bytes(80, 0, 5, 0, 2, code, 16, claim,
              32, Forge.any(8), 34, 33, 34, 32, 34, 64, 0, Forge.any(8), 34, 32, end), well ? 0 : 8);
          int[] t = taken[i];
          boolean taking = t[1] == op && t[2] == x;
          byte[] code2 = Forge.bytes(Forge.ins(15, 0, 0, 0), Forge.ins(t[0], 1, 2, 3), HALT,
              Forge.ins(15, 0, 0, 1), HALT);
          due("taken " + t[0] + " shows " + op, Forge.bytes(80, 0, 5, 0, 2, code2, 16, claim,
              32, Forge.any(8), 34, 33, 34, 64, 0, 34, 32, end), taking ? 0 : 8);
        }
      }
    }
  }

  /** A claim that held at a MARK is another one when a register is. */
  private static void changes() {
    Model.Node r1 = new Model.Node(6, 1, null, null);
    Model.Node r2 = new Model.Node(6, 2, null, null);
    List<Model.Node> claims = List.of(two(21, Model.num(0), r1), two(22, r1, r1), two(21, r1, r2),
        Model.all(two(18, two(20, Model.var(0), r1), two(20, Model.var(0), r2))),
        two(17, two(22, r2, r2), two(21, Model.num(0), r1)));
    List<byte[]> steps = List.of(Forge.ins(0, 1, 0, -5), Forge.ins(1, 1, 2, 0), Forge.ins(1, 2, 1, 0),
        Forge.ins(5, 1, 1, 0), Forge.ins(2, 1, 1, 3), Forge.ins(0, 3, 0, 1), Forge.ins(1, 1, 1, 0),
        Forge.ins(6, 3, 0, 0), Forge.ins(6, 1, 0, 0));
    for (Model.Node claim : claims) {
      for (byte[] step : steps) {
        byte[] code = Forge.bytes(80, 0, 3, 0, 1, Forge.ins(15, 0, 0, 0), step, Forge.ins(8, 0, 0, 0));
        byte[] first = claim.op() == 19 ? Forge.bytes(35, 34, 64, 0)
            : claim.op() == 17 ? Forge.bytes(33, 37, 36) : Forge.bytes(36);
        boolean reads = step[0] == 6;
        byte[] cell = reads ? Forge.bytes(33, 53, 5, 8, 5, 8, 52, 5, 8, 64, 0) : new byte[0];
        byte[] part = Forge.bytes(Forge.any(8), 34, cell, 64, reads ? 1 : 0);
        load("a changed register", Forge.bytes(code, claim, first, part));
        part = Forge.bytes(Forge.any(8), 34, reads ? Forge.bytes(33, 33, 36, 36, 35) : cell, 64,
            reads ? 1 : 0);
        load("a changed register", Forge.bytes(code, claim, first, part));
      }
    }
    byte[] code = Forge.bytes(80, 0, 3, 0, 1, Forge.ins(15, 0, 0, 0), Forge.ins(0, 1, 0, -5),
        Forge.ins(8, 0, 0, 0));
    due("no more so", Forge.bytes(code, claims.get(0), 36, Forge.any(8), 34, 64, 0), 8);
    code = Forge.bytes(80, 0, 3, 0, 1, Forge.ins(15, 0, 0, 0), Forge.ins(0, 3, 0, -5),
        Forge.ins(8, 0, 0, 0));
    due("still so", Forge.bytes(code, claims.get(0), 36, Forge.any(8), 34, 64, 0), 0);
  }

  /** What is read is a variable of its own, whichever register it comes to. */
  private static void readings() {
    byte[] end = Forge.bytes(Forge.any(8), 34, 32);
    byte[] well = Forge.bytes(33, 33, 36, 36, 35);
    byte[] number = Forge.bytes(0, 7, 0, Forge.four(0));
    for (int to = 0; to < 7; to++) {
      for (int x = 0; x < 7; x++) {
        for (int y = 0; y < 7; y++) {
          byte[] claim = Forge.bytes(22, 6, x, 6, y);
          byte[] code = Forge.bytes(80, 0, 5, 0, 2, Forge.ins(15, 0, 0, 0), number, Forge.ins(6, to, 7, 9),
              Forge.ins(15, 0, 0, 1), HALT);
          due("what was read", Forge.bytes(code, 16, claim, 32, Forge.any(8), 34, well, 37, end),
              x == y ? 0 : 8);
          byte[] twice = Forge.bytes(80, 0, 6, 0, 2, number, Forge.ins(6, to, 7, 9), number,
              Forge.ins(6, 6, 7, 9), Forge.ins(15, 0, 0, 1), HALT);
          boolean same = x == y || x != to && y != to && x != 6 && y != 6;
          due("what was read twice", Forge.bytes(twice, 16, claim, well, well, 37, end), same ? 0 : 8);
        }
      }
    }
  }

  /** Terms that are deep on their right side. */
  private static void rightSides() {
    byte[] one = Forge.bytes(1, Forge.four(1));
    for (int deep = 37; deep < 44; deep++) {
      byte[] term = one;
      byte[] formula = Forge.bytes(16);
      for (int i = 1; i < deep; i++) {
        term = Forge.bytes(i % 3 + 2, one, term);
        formula = Forge.bytes(i % 2 + 17, 16, formula);
      }
      byte[] head = Forge.bytes(80, 0, 2, 0, 1, Forge.ins(15, 0, 0, 0), HALT);
      int fault = deep > 40 ? 5 : 8;
      due("a term", Forge.bytes(head, 16, 52, term, 36), fault);
      due("two terms", Forge.bytes(head, 16, 53, one, term, 36), fault);
      due("a term of a claim", Forge.bytes(head, 23, one, term, 37), deep > 39 ? 5 : 8);
      due("a term of a PUT", Forge.bytes(head, 16, 38, 23, one, term, one, one), deep > 39 ? 5 : 8);
      due("a formula", Forge.bytes(head, formula, 36), fault);
      due("a formula of a PUT", Forge.bytes(head, 16, 38, formula, one, one), fault);
    }
  }

  public static void main(String[] args) {
    relations();
    formulas();
    branches();
    changes();
    readings();
    rightSides();
    System.out.println(loads + " packages, " + in + " came in, " + wrong + " answers are not as due");
    if (wrong != 0) {
      System.exit(1);
    }
  }
}

import java.util.ArrayList;
import java.util.Arrays;
import java.util.List;

/**
 * A second reading of the document, as plain as can be, to hold the class against: formulas are
 * trees with counted binders that are shifted and copied whenever they are put somewhere.
 */
final class Model {
  static final class Fault extends RuntimeException {
    final int number;
    final int place;

    Fault(int number, int place) {
      super(null, null, false, false);
      this.number = number;
      this.place = place;
    }
  }

  record Node(int op, int value, Node l, Node r) {
    boolean same(Node o) {
      if (op != o.op || value != o.value) {
        return false;
      }
      return (l == null || l.same(o.l)) && (r == null || r.same(o.r));
    }
  }

  record Ins(int op, int a, int b, int n) {
  }

  static Node num(int v) {
    return new Node(1, v, null, null);
  }

  static Node var(int i) {
    return new Node(5, i, null, null);
  }

  static Node two(int op, Node l, Node r) {
    return new Node(op, 0, l, r);
  }

  static Node all(Node body) {
    return new Node(19, 0, body, null);
  }

  static final Node TRUE = new Node(16, 0, null, null);

  // ---- state
  byte[] tape = new byte[0];
  int[] cells = new int[256];
  int rlo = 0;
  int rhi = 256;
  int wlo = 0;
  int whi = 256;
  List<Ins> code = null;
  boolean in = false;
  int faultNumber = 0;
  int faultPlace = -1;
  int result = 0;
  int steps = 0;
  int nodes = 0;
  int[] counts = new int[4];

  int feed(int... five) {
    if (tape.length + 20 > 20000) {
      return -1;
    }
    int at = tape.length;
    tape = Arrays.copyOf(tape, at + 20);
    for (int v : five) {
      for (int s = 24; s >= 0; s -= 8) {
        tape[at++] = (byte) (v >>> s);
      }
    }
    return tape.length;
  }

  int end(int n) {
    if (n < 0 || n > tape.length) {
      return -1;
    }
    tape = Arrays.copyOf(tape, n);
    return n;
  }

  int policy(int a, int b, int c, int d) {
    if (!(0 <= a && a <= c && c <= d && d <= b && b <= 256)) {
      return -1;
    }
    rlo = a;
    rhi = b;
    wlo = c;
    whi = d;
    code = null;
    in = false;
    return 0;
  }

  int load() {
    Gate gate = new Gate(tape);
    nodes = 0;
    code = null;
    in = false;
    faultNumber = 0;
    faultPlace = -1;
    try {
      gate.all();
      in = true;
    } catch (Fault f) {
      faultNumber = f.number;
      faultPlace = f.place;
    }
    if (in || faultNumber >= 4) {
      code = gate.code;
    }
    if (in || faultNumber >= 7) {
      nodes = (int) gate.nodes;
    }
    tape = new byte[0];
    counts[in ? 0 : 1]++;
    return in ? 0 : -1;
  }

  int compile() {
    nodes = 0;
    code = null;
    in = false;
    faultNumber = 0;
    faultPlace = -1;
    SourceModel source = new SourceModel(tape, wlo, whi);
    List<Ins> made = source.make();
    if (made != null) {
      code = made;
      in = true;
    } else {
      faultNumber = source.number;
      faultPlace = source.place;
    }
    tape = new byte[0];
    counts[in ? 2 : 3]++;
    return in ? 0 : -1;
  }

  int fault(int what) {
    return what == 0 ? faultNumber : what == 1 ? faultPlace : 0;
  }

  int run(int fuel) {
    return in && fuel >= 0 && fuel <= 20000 ? go(fuel) : -1;
  }

  int watch(int fuel) {
    return code != null && fuel >= 0 && fuel <= 20000 ? go(fuel) : -1;
  }

  /** Code that is in never strays, so both runs may be watched. */
  private int go(int fuel) {
    int[] r = new int[8];
    int at = 0;
    steps = 0;
    result = 0;
    while (steps < fuel) {
      Ins i = code.get(at);
      int to = at + 1;
      switch (i.op) {
        case 0 -> r[i.a] = i.n;
        case 1 -> r[i.a] = r[i.b];
        case 2 -> r[i.a] = r[i.b] + r[i.n];
        case 3 -> r[i.a] = r[i.b] - r[i.n];
        case 4 -> r[i.a] = r[i.b] * r[i.n];
        case 5 -> r[i.a] = r[i.b] + i.n;
        case 6 -> {
          int c = r[i.b] + i.n;
          if (c < rlo || c >= rhi) {
            result = c;
            return 4;
          }
          r[i.a] = cells[c];
        }
        case 7 -> {
          int c = r[i.b] + i.n;
          if (c < wlo || c >= whi) {
            result = c;
            return 5;
          }
          cells[c] = r[i.a];
        }
        case 8 -> to = i.n;
        case 9 -> to = r[i.a] < r[i.b] ? i.n : to;
        case 10 -> to = r[i.a] <= r[i.b] ? i.n : to;
        case 11 -> to = r[i.a] == r[i.b] ? i.n : to;
        case 12 -> to = r[i.a] != r[i.b] ? i.n : to;
        case 13 -> {
          steps++;
          result = r[0];
          return 1;
        }
        case 14 -> {
          steps++;
          result = i.n;
          return 2;
        }
        default -> {
        }
      }
      steps++;
      at = to;
    }
    return 3;
  }

  int poke(int cell, int v) {
    if (cell < 0 || cell > 255) {
      return 0;
    }
    int was = cells[cell];
    cells[cell] = v;
    return was;
  }

  int peek(int cell) {
    return cell < 0 || cell > 255 ? 0 : cells[cell];
  }

  int told(int what) {
    return switch (what) {
      case 0 -> code == null ? 0 : code.size();
      case 1 -> nodes;
      case 2 -> code == null ? 0 : 1;
      case 3 -> in ? 1 : 0;
      case 4, 5, 6, 7 -> counts[what - 4];
      default -> 0;
    };
  }

  long digest() {
    long d = 7;
    for (int c : cells) {
      d = d * 31 + c;
    }
    d = d * 31 + result;
    d = d * 31 + steps;
    for (int i = 0; i < 8; i++) {
      d = d * 31 + told(i);
    }
    return d;
  }

  // ---- formulas with counted binders

  /** Raises the variables that are not bound within by some. */
  static Node shift(Node t, int by, int from) {
    if (by == 0 || t == null) {
      return t;
    }
    if (t.op == 5) {
      return t.value >= from ? var(t.value + by) : t;
    }
    if (t.l == null) {
      return t;
    }
    int inner = t.op == 19 ? from + 1 : from;
    return new Node(t.op, t.value, shift(t.l, by, inner), shift(t.r, by, inner));
  }

  /** A body within one binder, with a term in place of its variable. */
  static Node put(Node body, Node term) {
    return put(body, term, 0);
  }

  private static Node put(Node t, Node term, int at) {
    if (t == null) {
      return null;
    }
    if (t.op == 5) {
      return t.value == at ? shift(term, at, 0) : t.value > at ? var(t.value - 1) : t;
    }
    if (t.l == null) {
      return t;
    }
    int inner = t.op == 19 ? at + 1 : at;
    return new Node(t.op, t.value, put(t.l, term, inner), put(t.r, term, inner));
  }

  static Node atRegisters(Node t, Node[] r, int within) {
    if (t == null) {
      return null;
    }
    if (t.op == 6) {
      return shift(r[t.value], within, 0);
    }
    if (t.l == null) {
      return t;
    }
    int inner = t.op == 19 ? within + 1 : within;
    return new Node(t.op, t.value, atRegisters(t.l, r, inner), atRegisters(t.r, r, inner));
  }

  static long size(Node t) {
    return t == null ? 0 : 1 + size(t.l) + size(t.r);
  }

  static long sizeAt(Node t, long[] sizes) {
    return t == null ? 0 : t.op == 6 ? sizes[t.value] : 1 + sizeAt(t.l, sizes) + sizeAt(t.r, sizes);
  }

  /** Null if there is a variable in it. */
  static Integer value(Node t) {
    if (t.op == 1) {
      return t.value;
    }
    if (t.op == 5) {
      return null;
    }
    Integer x = value(t.l);
    Integer y = value(t.r);
    if (x == null || y == null) {
      return null;
    }
    return t.op == 2 ? x + y : t.op == 3 ? x - y : x * y;
  }

  static boolean holds(Node w) {
    if (w.op < 20 || w.op > 24) {
      return false;
    }
    Integer x = value(w.l);
    Integer y = value(w.r);
    if (x == null || y == null) {
      return false;
    }
    return switch (w.op) {
      case 20 -> x < y;
      case 21 -> x <= y;
      case 22 -> x.intValue() == y.intValue();
      case 23 -> x.intValue() != y.intValue();
      default -> {
        long z = (long) x + (long) y;
        yield z >= Integer.MIN_VALUE && z <= Integer.MAX_VALUE;
      }
    };
  }

  // ---- the gate

  final class Gate {
    final byte[] bytes;
    int at = 0;
    List<Ins> code = new ArrayList<>();
    List<Node> claims = new ArrayList<>();
    long nodes = 0;
    /** What stands around: a formula for a hypothesis, null for a variable. */
    List<Node> around = new ArrayList<>();
    boolean inClaim = false;

    Gate(byte[] bytes) {
      this.bytes = bytes;
    }

    int one() {
      if (at >= bytes.length) {
        throw new Fault(1, bytes.length);
      }
      return bytes[at++] & 255;
    }

    int some(int many) {
      int v = 0;
      for (int i = 0; i < many; i++) {
        v = v << 8 | one();
      }
      return v;
    }

    void all() {
      open();
      List<Node> parts = obligation();
      for (Node part : parts) {
        around.clear();
        derive(part, 1);
      }
      if (at < bytes.length) {
        throw new Fault(9, at);
      }
    }

    /** The head, the instructions and the claims. */
    void open() {
      if (one() != 80) {
        throw new Fault(2, 0);
      }
      int instructions = some(2);
      if (instructions < 1 || instructions > 1000) {
        throw new Fault(2, 1);
      }
      int many = some(2);
      if (many > 1000) {
        throw new Fault(2, 3);
      }
      for (int i = 0; i < instructions; i++) {
        instruction();
      }
      for (int i = 0; i < instructions; i++) {
        Ins x = code.get(i);
        boolean jump = x.op >= 8 && x.op <= 12;
        boolean well = !jump || x.n >= 0 && x.n < instructions && code.get(x.n).op == 15;
        well = well && (x.op != 15 || x.n >= 0 && x.n < many);
        well = well && (i < instructions - 1 || x.op == 8 || x.op == 13 || x.op == 14);
        if (!well) {
          throw new Fault(3, 5 + 7 * i);
        }
      }
      inClaim = true;
      for (int i = 0; i < many; i++) {
        claims.add(formula(1, 0));
      }
      inClaim = false;
    }

    void instruction() {
      int where = at;
      int op = one();
      int a = one();
      int b = one();
      int n = some(4);
      boolean well = op <= 15 && a <= 7 && b <= 7;
      if (well) {
        String named = switch (op) {
          case 0 -> "an";
          case 1 -> "ab";
          case 2, 3, 4 -> "abc";
          case 5, 6, 7, 9, 10, 11, 12 -> "abn";
          case 13 -> "";
          default -> "n";
        };
        well = named.contains("a") || a == 0;
        well = well && (named.contains("b") || b == 0);
        if (named.contains("c")) {
          well = well && n >= 0 && n <= 7;
        } else if (!named.contains("n")) {
          well = well && n == 0;
        }
        if (op == 14) {
          well = well && n >= 1 && n <= 99;
        }
      }
      if (!well) {
        throw new Fault(3, where);
      }
      code.add(new Ins(op, a, b, n));
    }

    Node formula(int deep, int binders) {
      int where = at;
      int tag = one();
      if (deep > 40) {
        throw new Fault(5, where);
      }
      switch (tag) {
        case 16:
          return TRUE;
        case 17:
        case 18: {
          Node l = formula(deep + 1, binders);
          return two(tag, l, formula(deep + 1, binders));
        }
        case 19:
          return Model.all(formula(deep + 1, binders + 1));
        case 20:
        case 21:
        case 22:
        case 23:
        case 24: {
          Node l = term(deep + 1, binders);
          return two(tag, l, term(deep + 1, binders));
        }
        default:
          throw new Fault(inClaim ? 4 : 7, where);
      }
    }

    Node term(int deep, int binders) {
      int where = at;
      int tag = one();
      if (deep > 40) {
        throw new Fault(5, where);
      }
      switch (tag) {
        case 1:
          return num(some(4));
        case 2:
        case 3:
        case 4: {
          Node l = term(deep + 1, binders);
          return two(tag, l, term(deep + 1, binders));
        }
        case 5: {
          int i = one();
          if (i < binders) {
            return var(i);
          }
          int out = i - binders;
          if (inClaim || out >= around.size() || around.get(around.size() - 1 - out) != null) {
            throw new Fault(inClaim ? 4 : 7, where);
          }
          return var(i);
        }
        case 6:
          if (inClaim) {
            int i = one();
            if (i > 7) {
              throw new Fault(4, where);
            }
            return new Node(6, i, null, null);
          }
          throw new Fault(7, where);
        default:
          throw new Fault(inClaim ? 4 : 7, where);
      }
    }

    void spend(long n) {
      nodes += n;
      if (nodes > 60000) {
        throw new Fault(6, 0);
      }
    }

    List<Node> obligation() {
      List<Node> parts = new ArrayList<>();
      Node[] zeros = new Node[8];
      Arrays.fill(zeros, num(0));
      parts.add(path(0, zeros));
      for (int i = 0; i < code.size(); i++) {
        if (code.get(i).op == 15) {
          Node[] r = new Node[8];
          for (int k = 0; k < 8; k++) {
            r[k] = var(7 - k);
          }
          spend(9);
          Node claim = claimAt(i, r);
          Node whole = two(18, claim, path(i + 1, r));
          for (int k = 0; k < 8; k++) {
            whole = Model.all(whole);
          }
          parts.add(whole);
        }
      }
      return parts;
    }

    Node claimAt(int mark, Node[] r) {
      Node claim = claims.get(code.get(mark).n);
      long[] sizes = new long[8];
      for (int i = 0; i < 8; i++) {
        sizes[i] = size(r[i]);
      }
      spend(sizeAt(claim, sizes));
      return atRegisters(claim, r, 0);
    }

    Node[] with(Node[] r, int a, Node t) {
      Node[] s = r.clone();
      s[a] = t;
      if (size(t) > 200) {
        throw new Fault(6, 0);
      }
      return s;
    }

    Node inside(int lo, int hi, Node cell) {
      Node t = two(17, two(21, num(lo), cell), two(20, cell, num(hi)));
      spend(size(t));
      return t;
    }

    Node path(int place, Node[] r) {
      Ins i = code.get(place);
      int next = place + 1;
      switch (i.op) {
        case 0:
          return path(next, with(r, i.a, num(i.n)));
        case 1:
          return path(next, with(r, i.a, r[i.b]));
        case 2:
        case 3:
        case 4:
          return path(next, with(r, i.a, two(i.op, r[i.b], r[i.n])));
        case 5:
          return path(next, with(r, i.a, two(2, r[i.b], num(i.n))));
        case 6: {
          Node ok = inside(rlo, rhi, two(2, r[i.b], num(i.n)));
          spend(2);
          Node[] s = new Node[8];
          for (int k = 0; k < 8; k++) {
            s[k] = shift(r[k], 1, 0);
          }
          s[i.a] = var(0);
          return two(17, ok, Model.all(path(next, s)));
        }
        case 7: {
          Node ok = inside(wlo, whi, two(2, r[i.b], num(i.n)));
          spend(1);
          return two(17, ok, path(next, r));
        }
        case 8:
          return claimAt(i.n, r);
        case 13:
        case 14:
          spend(1);
          return TRUE;
        case 15:
          return claimAt(place, r);
        default: {
          Node x = r[i.a];
          Node y = r[i.b];
          Node yes = i.op == 9 ? two(20, x, y) : i.op == 10 ? two(21, x, y)
              : i.op == 11 ? two(22, x, y) : two(23, x, y);
          Node no = i.op == 9 ? two(21, y, x) : i.op == 10 ? two(20, y, x)
              : i.op == 11 ? two(23, x, y) : two(22, x, y);
          spend(3 + size(yes) + size(no));
          Node jumped = claimAt(i.n, r);
          return two(17, two(18, yes, jumped), two(18, no, path(next, r)));
        }
      }
    }

    void need(boolean well, int where) {
      if (!well) {
        throw new Fault(8, where);
      }
    }

    void within(Node bound, Node w, int deep) {
      around.add(bound);
      derive(w, deep);
      around.remove(around.size() - 1);
    }

    void derive(Node w, int deep) {
      int where = at;
      int tag = one();
      if (deep > 160) {
        throw new Fault(5, where);
      }
      if (tag >= 64 && tag <= 68) {
        Node told = tell(tag, where, deep);
        need(told.same(w), where);
        return;
      }
      if (tag < 32 || tag > 56) {
        throw new Fault(7, where);
      }
      show(tag, w, where, deep + 1);
    }

    void show(int tag, Node w, int where, int next) {
      Node x = w.l;
      Node y = w.r;
      switch (tag) {
        case 32 -> need(w.op == 16, where);
        case 33 -> {
          need(w.op == 17, where);
          derive(x, next);
          derive(y, next);
        }
        case 34 -> {
          need(w.op == 18, where);
          within(x, shift(y, 1, 0), next);
        }
        case 35 -> {
          need(w.op == 19, where);
          within(null, w.l, next);
        }
        case 36 -> need(holds(w), where);
        case 37 -> need(w.op == 22 && x.same(y), where);
        case 38 -> {
          Node f = formula(1, 1);
          Node s = term(1, 0);
          Node t = term(1, 0);
          need(put(f, t).same(w), where);
          derive(two(22, s, t), next);
          derive(put(f, s), next);
        }
        case 39 -> {
          need(w.op == 21, where);
          derive(two(20, x, y), next);
        }
        case 40, 41, 42 -> {
          Node t = term(1, 0);
          need(w.op == (tag == 40 ? 21 : 20), where);
          derive(two(tag == 41 ? 20 : 21, x, t), next);
          derive(two(tag == 42 ? 20 : 21, t, y), next);
        }
        case 43 -> {
          need(w.op == 21 && x.op == 2 && x.r.same(num(1)), where);
          derive(two(20, x.l, y), next);
        }
        case 44 -> {
          Node t = term(1, 0);
          need(w.op == 21 && y.same(two(2, x, num(1))), where);
          derive(two(20, x, t), next);
        }
        case 45 -> {
          Node t = term(1, 0);
          need(w.op == 21 && x.op == 2 && y.op == 2 && x.r.same(y.r), where);
          derive(two(21, x.l, y.l), next);
          derive(two(21, y.l, t), next);
          derive(two(24, x.l, x.r), next);
          derive(two(24, t, x.r), next);
        }
        case 46 -> {
          Node t = term(1, 0);
          need(w.op == 20 && x.op == 2 && y.op == 2 && x.r.same(y.r), where);
          derive(two(21, t, x.l), next);
          derive(two(20, x.l, y.l), next);
          derive(two(24, t, x.r), next);
          derive(two(24, y.l, x.r), next);
        }
        case 47 -> need(w.op == 22 && x.op == 2 && x.l.op == 2
            && y.same(two(2, x.l.l, two(2, x.l.r, x.r))), where);
        case 48 -> need(w.op == 22 && x.op == 2 && y.same(two(2, x.r, x.l)), where);
        case 49 -> need(w.op == 22 && x.op == 2 && x.l.op == 3 && x.l.r.same(x.r)
            && x.l.l.same(y), where);
        case 50 -> {
          need(w.op == 23, where);
          derive(two(20, x, y), next);
        }
        case 51 -> {
          need(w.op == 20, where);
          derive(two(21, x, y), next);
          derive(two(23, x, y), next);
        }
        case 52 -> {
          Node t = term(1, 0);
          derive(two(20, t, t), next);
        }
        case 53 -> {
          Node t = term(1, 0);
          Node u = term(1, 0);
          within(two(20, t, u), shift(w, 1, 0), next);
          within(two(21, u, t), shift(w, 1, 0), next);
        }
        case 54 -> {
          need(w.op == 22 || w.op == 23, where);
          derive(two(w.op, y, x), next);
        }
        case 55 -> need(w.op == 21 && x.same(y), where);
        default -> {
          Node t = term(1, 0);
          Node u = term(1, 0);
          need(w.op == 24, where);
          derive(two(21, t, x), next);
          derive(two(21, x, u), next);
          derive(two(24, t, y), next);
          derive(two(24, u, y), next);
        }
      }
    }

    Node telling(int deep) {
      int where = at;
      int tag = one();
      if (deep > 160) {
        throw new Fault(5, where);
      }
      if (tag < 64 || tag > 68) {
        throw new Fault(7, where);
      }
      return tell(tag, where, deep);
    }

    Node tell(int tag, int where, int deep) {
      if (tag == 64) {
        int i = one();
        if (i >= around.size() || around.get(around.size() - 1 - i) == null) {
          throw new Fault(7, where);
        }
        return shift(around.get(around.size() - 1 - i), i + 1, 0);
      }
      Node t = tag == 68 ? term(1, 0) : null;
      Node p = telling(deep + 1);
      need(p.op == (tag == 67 ? 18 : tag == 68 ? 19 : 17), where);
      if (tag == 65) {
        return p.l;
      }
      if (tag == 68) {
        return put(p.l, t);
      }
      if (tag == 67) {
        derive(p.l, deep + 1);
      }
      return p.r;
    }
  }
}

import java.util.Arrays;

/**
 * A harbour for foreign code: packages come in only with derivations that show that their code
 * never reads or writes where it may not, and sources are made into such packages here.
 */
public final class CodeHarbour {

  private static final int TAPE_ROOM = 20000;
  private static final int PARCEL_ROOM = 400000;
  private static final int MOST_FUEL = 20000;
  private static final int CELLS = 256;
  private static final int REGISTERS = 8;
  private static final int MOST_INSTRUCTIONS = 1000;
  private static final int MOST_CLAIMS = 1000;
  private static final int INSTRUCTION_BYTES = 7;
  private static final int PACKAGE_BYTE = 80;

  // Instructions.
  private static final int LI = 0;
  private static final int MOV = 1;
  private static final int ADD = 2;
  private static final int SUB = 3;
  private static final int MUL = 4;
  private static final int ADDI = 5;
  private static final int LD = 6;
  private static final int ST = 7;
  private static final int JMP = 8;
  private static final int JLT = 9;
  private static final int JLE = 10;
  private static final int JEQ = 11;
  private static final int JNE = 12;
  private static final int HALT = 13;
  private static final int TRAP = 14;
  private static final int MARK = 15;

  // What an instruction names: 1 for a, 2 for b, 4 for n.
  private static final int[] NAMED = {5, 3, 7, 7, 7, 7, 7, 7, 4, 7, 7, 7, 7, 0, 4, 4};

  // How a run ends.
  private static final int HALTED = 1;
  private static final int TRAPPED = 2;
  private static final int OUT_OF_FUEL = 3;
  private static final int BAD_READ = 4;
  private static final int BAD_WRITE = 5;

  // Terms and formulas: the tags of a package; FREE and CLAIM_AT stand in the table alone.
  private static final int NUMBER = 1;
  private static final int PLUS = 2;
  private static final int MINUS = 3;
  private static final int TIMES = 4;
  private static final int VARIABLE = 5;
  private static final int REGISTER = 6;
  private static final int FREE = 7;
  private static final int TRUE = 16;
  private static final int AND = 17;
  private static final int IMPLIES = 18;
  private static final int ALL = 19;
  private static final int LESS = 20;
  private static final int AT_MOST = 21;
  private static final int EQUAL = 22;
  private static final int UNEQUAL = 23;
  private static final int FITS = 24;
  private static final int CLAIM_AT = 25;

  // Rules of derivations.
  private static final int BY_TRUE = 32;
  private static final int BY_BOTH = 33;
  private static final int BY_IF = 34;
  private static final int BY_ANY = 35;
  private static final int BY_RECKON = 36;
  private static final int BY_SAME = 37;
  private static final int BY_PUT = 38;
  private static final int BY_LESS = 39;
  private static final int BY_CHAIN = 40;
  private static final int BY_CHAIN_LESS_FIRST = 41;
  private static final int BY_CHAIN_LESS_LAST = 42;
  private static final int BY_STEP = 43;
  private static final int BY_UP = 44;
  private static final int BY_SHIFT = 45;
  private static final int BY_SHIFT_LESS = 46;
  private static final int BY_GROUPING = 47;
  private static final int BY_ORDER = 48;
  private static final int BY_TAKING_AWAY = 49;
  private static final int BY_APART = 50;
  private static final int BY_BELOW = 51;
  private static final int BY_NEVER = 52;
  private static final int BY_CASES = 53;
  private static final int BY_TURN = 54;
  private static final int BY_SELF = 55;
  private static final int BY_BETWEEN = 56;
  private static final int BY_HYPOTHESIS = 64;
  private static final int BY_LEFT = 65;
  private static final int BY_RIGHT = 66;
  private static final int BY_THEN = 67;
  private static final int BY_FOR = 68;

  // How many derivations stand behind a rule's tag: 32 to 56, then 64 to 68.
  private static final int[] DERIVATIONS = {
    0, 2, 1, 1, 0, 0, 2, 1, 2, 2, 2, 1, 1, 4, 4, 0, 0, 0, 1, 2, 1, 2, 1, 0, 4, 0, 1, 1, 2, 1
  };

  // How many terms stand behind a rule's tag, in the same order (a PUT's formula is ahead of them).
  private static final int[] TERMS = {
    0, 0, 0, 0, 0, 0, 2, 0, 1, 1, 1, 0, 1, 1, 1, 0, 0, 0, 0, 0, 1, 2, 0, 0, 2, 0, 0, 0, 0, 1
  };

  // The places of a rule's terms in a frame: those found in W, then those that were read.
  private static final int X = 0;
  private static final int Y = 1;
  private static final int K = 2;
  private static final int T = 3;
  private static final int U = 4;
  private static final int SLOTS = 5;

  // What the derivations of rules 38 to 56 show, four to a rule: 100 * relation + 10 * the slot
  // on its left + the slot on its right; 0 where it is no relation of slots.
  private static final int[] GOALS = {
    2234, 0, 0, 0,
    2001, 0, 0, 0,
    2103, 2131, 0, 0,
    2003, 2131, 0, 0,
    2103, 2031, 0, 0,
    2001, 0, 0, 0,
    2003, 0, 0, 0,
    2101, 2113, 2402, 2432,
    2131, 2010, 2432, 2402,
    0, 0, 0, 0,
    0, 0, 0, 0,
    0, 0, 0, 0,
    2001, 0, 0, 0,
    2101, 2301, 0, 0,
    2033, 0, 0, 0,
    0, 0, 0, 0,
    0, 0, 0, 0,
    0, 0, 0, 0,
    2131, 2114, 2432, 2442
  };

  // Faults of a package.
  private static final int CUT = 1;
  private static final int HEAD = 2;
  private static final int CODE = 3;
  private static final int CLAIM = 4;
  private static final int DEEP = 5;
  private static final int ROOM = 6;
  private static final int DERIVATION = 7;
  private static final int SHOWN = 8;
  private static final int MORE = 9;

  private static final int MOST_TAGS = 40;
  private static final int MOST_DERIVATION_TAGS = 160;
  private static final int MOST_TERM_NODES = 200;
  private static final int MOST_NODES = 60000;

  // Faults of a source.
  private static final int NO_WORD = 1;
  private static final int WRONG_WORD = 2;
  private static final int WRONG_NAME = 3;
  private static final int WRONG_KIND = 4;
  private static final int WRONG_NUMBER = 5;
  private static final int NO_ROOM = 6;
  private static final int TOO_MANY = 7;

  private static final int MOST_LETTERS = 8;
  private static final int MOST_NUMBER = 2147483647;
  private static final int MOST_ELEMENTS = 64;
  private static final int MOST_BOUND = 100000;
  private static final int MOST_OPERANDS = 16;
  private static final int MOST_LOOPS = 3;
  private static final int MOST_BRACES = 20;
  private static final int LAST_FREE_REGISTER = 4;
  private static final int FIRST_LOOP_REGISTER = 5;

  // Words; a sign of one character is its own kind.
  private static final int THE_END = 0;
  private static final int BAD_WORD = 1;
  private static final int A_NAME = 2;
  private static final int A_NUMBER = 3;
  private static final int WORD_VAR = 4;
  private static final int WORD_ARR = 5;
  private static final int WORD_IF = 6;
  private static final int WORD_ELSE = 7;
  private static final int WORD_WHILE = 8;
  private static final int WORD_FOR = 9;
  private static final int WORD_AND = 10;
  private static final int WORD_RETURN = 11;
  private static final int SIGN_EQUAL = 12;
  private static final int SIGN_UNEQUAL = 13;
  private static final int SIGN_AT_MOST = 14;
  private static final int SIGN_TO = 15;
  private static final String KEYWORDS = "var arr if else while for and return ";
  private static final String SIGNS = "()[]{};=<+-*";

  private final Parcel tape = new Parcel(TAPE_ROOM);
  private final Parcel made = new Parcel(PARCEL_ROOM);
  private final Machine machine = new Machine();
  private final Code code = new Code();
  private final Gate gate = new Gate(code, machine);
  private final Packer packer = new Packer(made);
  private final Compiler compiler = new Compiler(packer);
  private int flaw = 0;
  private int flawPlace = -1;
  private int obligationNodes = 0;
  private boolean held = false;
  private boolean in = false;
  private int loadsIn = 0;
  private int loadsOut = 0;
  private int compilesIn = 0;
  private int compilesOut = 0;

  public CodeHarbour() {
  }

  public int feed(int a, int b, int c, int d, int e) {
    if (tape.size + 20 > TAPE_ROOM) {
      return -1;
    }
    tape.addInt(a);
    tape.addInt(b);
    tape.addInt(c);
    tape.addInt(d);
    tape.addInt(e);
    return tape.size;
  }

  public int end(int n) {
    if (n < 0 || n > tape.size) {
      return -1;
    }
    tape.size = n;
    return n;
  }

  public int policy(int rlo, int rhi, int wlo, int whi) {
    if (rlo < 0 || wlo < rlo || whi < wlo || rhi < whi || rhi > CELLS) {
      return -1;
    }
    machine.rlo = rlo;
    machine.rhi = rhi;
    machine.wlo = wlo;
    machine.whi = whi;
    held = false;
    in = false;
    return 0;
  }

  public int load() {
    gate.admit(tape);
    keepFlaw(tape);
    in = flaw == 0;
    held = in || flaw >= CLAIM;
    obligationNodes = in || flaw > ROOM ? gate.total : 0;
    tape.size = 0;
    if (in) {
      loadsIn++;
      return 0;
    }
    loadsOut++;
    return -1;
  }

  public int compile() {
    compiler.translate(tape, machine.wlo, machine.whi);
    keepFlaw(tape);
    if (flaw == 0) {
      packer.pack();
      gate.admit(made);
      keepFlaw(made);
    }
    in = flaw == 0;
    held = in;
    obligationNodes = 0;
    tape.size = 0;
    if (in) {
      compilesIn++;
      return 0;
    }
    compilesOut++;
    return -1;
  }

  public int fault(int what) {
    if (what == 0) {
      return flaw;
    }
    return what == 1 ? flawPlace : 0;
  }

  public int run(int fuel) {
    if (!in || fuel < 0 || fuel > MOST_FUEL) {
      return -1;
    }
    return machine.go(code, fuel, false);
  }

  public int watch(int fuel) {
    if (!held || fuel < 0 || fuel > MOST_FUEL) {
      return -1;
    }
    return machine.go(code, fuel, true);
  }

  public int result() {
    return machine.outcome;
  }

  public int steps() {
    return machine.taken;
  }

  public int poke(int cell, int v) {
    int was = machine.cell(cell);
    machine.setCell(cell, v);
    return was;
  }

  public int peek(int cell) {
    return machine.cell(cell);
  }

  public int told(int what) {
    switch (what) {
      case 0:
        return held ? code.count : 0;
      case 1:
        return obligationNodes;
      case 2:
        return held ? 1 : 0;
      case 3:
        return in ? 1 : 0;
      case 4:
        return loadsIn;
      case 5:
        return loadsOut;
      case 6:
        return compilesIn;
      case 7:
        return compilesOut;
      default:
        return 0;
    }
  }

  public int strays() {
    return machine.wild;
  }

  public long digest() {
    long d = 7;
    for (int i = 0; i < CELLS; i++) {
      d = d * 31 + machine.cell(i);
    }
    d = d * 31 + machine.outcome;
    d = d * 31 + machine.taken;
    for (int i = 0; i < 8; i++) {
      d = d * 31 + told(i);
    }
    return d;
  }

  private void keepFlaw(Parcel of) {
    flaw = of.flaw;
    flawPlace = of.flawPlace;
  }

  /**
   * Bytes that come to be read once, in order, with the first fault that is seen in them. Its row,
   * as others here, grows as it is used, so that an object that sees small texts alone is small.
   */
  private static final class Parcel {
    final int room;
    byte[] row;
    int size = 0;
    int at = 0;
    int flaw = 0;
    int flawPlace = -1;

    Parcel(int room) {
      this.room = room;
      this.row = new byte[Math.max(0, Math.min(room, 512))];
    }

    void add(int value) {
      if (size >= room) {
        return;
      }
      if (size >= row.length) {
        row = Arrays.copyOf(row, row.length * 2 + 1);
      }
      row[size] = (byte) value;
      size++;
    }

    void addShort(int value) {
      add(value >> 8);
      add(value);
    }

    void addInt(int value) {
      add(value >> 24);
      add(value >> 16);
      add(value >> 8);
      add(value);
    }

    void addTagged(int tag, int value) {
      add(tag);
      add(value >> 24);
      add(value >> 16);
      add(value >> 8);
      add(value);
    }

    void begin() {
      at = 0;
      flaw = 0;
      flawPlace = -1;
    }

    boolean isWell() {
      return flaw == 0;
    }

    void fail(int number, int where) {
      if (flaw == 0) {
        flaw = number;
        flawPlace = where;
      }
    }

    /** The byte at a place, or -1 where there is none. */
    int byteAt(int where) {
      return where >= 0 && where < size && where < row.length ? row[where] & 255 : -1;
    }

    int next() {
      if (at >= 0 && at < size && at < row.length) {
        at++;
        return row[at - 1] & 255;
      }
      if (flaw == 0) {
        flaw = CUT;
        flawPlace = size;
      }
      return 0;
    }

    int nextShort() {
      int high = next();
      return high << 8 | next();
    }

    int nextInt() {
      int value = next();
      value = value << 8 | next();
      value = value << 8 | next();
      return value << 8 | next();
    }
  }

  /** Instructions, one behind the other. */
  private static final class Code {
    final int[] op = new int[MOST_INSTRUCTIONS];
    final int[] a = new int[MOST_INSTRUCTIONS];
    final int[] b = new int[MOST_INSTRUCTIONS];
    final int[] n = new int[MOST_INSTRUCTIONS];
    int count = 0;

    boolean has(int place) {
      return place >= 0 && place < count && place < MOST_INSTRUCTIONS;
    }

    boolean isMark(int place) {
      return has(place) && op[place] == MARK;
    }

    /** What is too much is counted, too, so that it can be seen that it was too much. */
    void add(int newOp, int newA, int newB, int newN) {
      if (count < MOST_INSTRUCTIONS) {
        op[count] = newOp;
        a[count] = newA;
        b[count] = newB;
        n[count] = newN;
      }
      count++;
    }

    void take(Parcel from, int many, int claims) {
      int first = from.at;
      count = 0;
      for (int i = 0; i < many && from.isWell(); i++) {
        takeOne(from);
      }
      for (int i = 0; i < many && from.isWell(); i++) {
        if (!standsWell(i, claims)) {
          from.fail(CODE, first + INSTRUCTION_BYTES * i);
        }
      }
    }

    private void takeOne(Parcel from) {
      int where = from.at;
      int newOp = from.next();
      int newA = from.next();
      int newB = from.next();
      int newN = from.nextInt();
      if (!from.isWell()) {
        return;
      }
      if (isInstruction(newOp, newA, newB, newN)) {
        add(newOp, newA, newB, newN);
      } else {
        from.fail(CODE, where);
      }
    }

    private static boolean isInstruction(int op, int a, int b, int n) {
      if (op < 0 || op > MARK || a >= REGISTERS || b >= REGISTERS) {
        return false;
      }
      int named = NAMED[op];
      if ((named & 1) == 0 && a != 0 || (named & 2) == 0 && b != 0 || (named & 4) == 0 && n != 0) {
        return false;
      }
      if (op == ADD || op == SUB || op == MUL) {
        return n >= 0 && n < REGISTERS;
      }
      return op != TRAP || n >= 1 && n <= 99;
    }

    private boolean standsWell(int place, int claims) {
      if (!has(place)) {
        return false;
      }
      int kind = op[place];
      if (kind >= JMP && kind <= JNE && !isMark(n[place])) {
        return false;
      }
      if (kind == MARK && (n[place] < 0 || n[place] >= claims)) {
        return false;
      }
      return place < count - 1 || kind == JMP || kind == HALT || kind == TRAP;
    }
  }

  /** The cells, the registers and the policy, and how the latest run went. */
  private static final class Machine {
    final int[] cells = new int[CELLS];
    final int[] registers = new int[REGISTERS];
    int rlo = 0;
    int rhi = CELLS;
    int wlo = 0;
    int whi = CELLS;
    int outcome = 0;
    int taken = 0;
    int wild = 0;
    int at = 0;
    int ending = 0;

    int cell(int place) {
      return place >= 0 && place < CELLS ? cells[place] : 0;
    }

    void setCell(int place, int value) {
      if (place >= 0 && place < CELLS) {
        cells[place] = value;
      }
    }

    private int register(int which) {
      return which >= 0 && which < REGISTERS ? registers[which] : 0;
    }

    private void setRegister(int which, int value) {
      if (which >= 0 && which < REGISTERS) {
        registers[which] = value;
      }
    }

    int go(Code code, int fuel, boolean watched) {
      Arrays.fill(registers, 0);
      at = 0;
      ending = 0;
      outcome = 0;
      taken = 0;
      for (int i = 0; i < fuel && ending == 0; i++) {
        step(code, watched);
      }
      return ending == 0 ? OUT_OF_FUEL : ending;
    }

    private void step(Code code, boolean watched) {
      if (!code.has(at)) {
        wild++;
        ending = OUT_OF_FUEL;
        return;
      }
      int place = at;
      int op = code.op[place];
      if (op == LD || op == ST) {
        touchCell(op, code.a[place], register(code.b[place]) + code.n[place], watched);
        return;
      }
      taken++;
      at++;
      if (op >= JMP && op <= JNE) {
        if (jumps(op, register(code.a[place]), register(code.b[place]))) {
          at = code.n[place];
        }
      } else if (op == HALT) {
        finish(HALTED, register(0));
      } else if (op == TRAP) {
        finish(TRAPPED, code.n[place]);
      } else if (op != MARK) {
        setRegister(code.a[place], reckon(op, register(code.b[place]), code.n[place]));
      }
    }

    private void touchCell(int op, int a, int cell, boolean watched) {
      boolean may = op == LD ? cell >= rlo && cell < rhi : cell >= wlo && cell < whi;
      if (!may && watched) {
        finish(op == LD ? BAD_READ : BAD_WRITE, cell);
        return;
      }
      if (!may) {
        wild++;
      }
      taken++;
      at++;
      if (op == LD) {
        setRegister(a, cell(cell));
      } else {
        setCell(cell, register(a));
      }
    }

    private void finish(int how, int with) {
      ending = how;
      outcome = with;
    }

    private static boolean jumps(int op, int x, int y) {
      switch (op) {
        case JLT:
          return x < y;
        case JLE:
          return x <= y;
        case JEQ:
          return x == y;
        case JNE:
          return x != y;
        default:
          return true;
      }
    }

    private int reckon(int op, int x, int n) {
      switch (op) {
        case LI:
          return n;
        case ADD:
          return x + register(n);
        case SUB:
          return x - register(n);
        case MUL:
          return x * register(n);
        case ADDI:
          return x + n;
        default:
          return x;
      }
    }
  }

  /**
   * The outermost part of a term or formula: what it is, and its two parts, each a node and the
   * bindings under which that node is seen. A number and a free variable have their value on the
   * left; an ALL has its body on the right.
   */
  private static final class Head {
    int op = 0;
    int left = 0;
    int leftEnv = 0;
    int right = 0;
    int rightEnv = 0;

    void copy(Head other) {
      relate(other.op, other.left, other.leftEnv, other.right, other.rightEnv);
    }

    void relate(int newOp, int newLeft, int newLeftEnv, int newRight, int newRightEnv) {
      op = newOp;
      left = newLeft;
      leftEnv = newLeftEnv;
      right = newRight;
      rightEnv = newRightEnv;
    }
  }

  /**
   * The table of nodes, and the bindings under which nodes are seen. A bound variable is named by
   * how many binders stand outside its own; a binding says what is in its place, so nothing is
   * ever copied to put a term for a variable.
   */
  private static final class Formulas {
    static final int FREE_NODES = 256;
    static final int NODE_ROOM = 80000;
    static final int CELL_ROOM = 40000;
    static final int PENDING = 1024;
    static final int PENDING_WIDTH = 6;
    static final int MOST_HOPS = 8;
    static final int REGISTER_CELL = -1;
    static final int MOST_VISITS = 1000000000;

    int[] op = new int[1024];
    int[] left = new int[1024];
    int[] right = new int[1024];
    int top = 0;
    // Bindings are chains: a cell binds one variable, or, as a chain's last one, the registers.
    int[] up = new int[256];
    int[] span = new int[256];
    int[] boundNode = new int[256];
    int[] boundEnv = new int[256];
    int cells = 1;
    int[] rows = new int[256];
    int rowCount = 0;
    final int[] pending = new int[PENDING * PENDING_WIDTH];
    int waiting = 0;
    final int[] values = new int[PENDING];
    int valueCount = 0;
    final Head mine = new Head();
    final Head theirs = new Head();

    Formulas() {
      clear();
    }

    /** The first nodes are the free variables, so that one is at hand wherever it is wanted. */
    private void clear() {
      top = 0;
      for (int i = 0; i < FREE_NODES; i++) {
        make(FREE, i, 0);
      }
      empty();
    }

    void empty() {
      top = FREE_NODES;
      cells = 1;
      rowCount = 0;
    }

    int make(int newOp, int newLeft, int newRight) {
      if (top >= NODE_ROOM) {
        return -1;
      }
      if (top >= op.length) {
        op = Arrays.copyOf(op, op.length * 2);
        left = Arrays.copyOf(left, op.length);
        right = Arrays.copyOf(right, op.length);
      }
      op[top] = newOp;
      left[top] = newLeft;
      right[top] = newRight;
      top++;
      return top - 1;
    }

    void setRight(int node, int newRight) {
      if (node >= 0 && node < top) {
        right[node] = newRight;
      }
    }

    private int kind(int node) {
      return node >= 0 && node < top ? op[node] : 0;
    }

    int addRow(int[] terms) {
      if ((rowCount + 1) * REGISTERS > rows.length) {
        rows = Arrays.copyOf(rows, rows.length * 2);
      }
      System.arraycopy(terms, 0, rows, rowCount * REGISTERS, REGISTERS);
      rowCount++;
      return rowCount - 1;
    }

    /** The bindings env, and one more variable for which the node stands, which needs none. */
    int bind(int env, int node) {
      int outside = env > 0 && env < cells ? env : 0;
      return addCell(outside, span[outside] + 1, node, 0);
    }

    private int addCell(int newUp, int newSpan, int node, int env) {
      if (cells >= CELL_ROOM) {
        return 0;
      }
      if (cells >= up.length) {
        up = Arrays.copyOf(up, up.length * 2);
        span = Arrays.copyOf(span, up.length);
        boundNode = Arrays.copyOf(boundNode, up.length);
        boundEnv = Arrays.copyOf(boundEnv, up.length);
      }
      up[cells] = newUp;
      span[cells] = newSpan;
      boundNode[cells] = node;
      boundEnv[cells] = env;
      cells++;
      return cells - 1;
    }

    /** The cell that binds the variable of this level, or 0; the chain goes to ever lower cells. */
    private int cellOf(int level, int env) {
      int at = env > 0 && env < cells ? env : 0;
      for (int i = 0; i < CELL_ROOM && at > 0 && up[at] >= 0 && span[at] > level + 1; i++) {
        at = up[at];
      }
      return span[at] > level ? at : 0;
    }

    /** The head of what a node is under bindings: never a bound variable, nor a CLAIM_AT. */
    void look(int node, int env, Head into) {
      int seen = node;
      int under = env;
      for (int i = 0; i < MOST_HOPS && kind(seen) == VARIABLE; i++) {
        int level = left[seen];
        int cell = cellOf(level, under);
        if (cell == 0) {
          seen = -1;
        } else if (up[cell] < 0) {
          seen = rowTerm(boundNode[cell], level);
        } else {
          seen = boundNode[cell];
        }
        under = boundEnv[cell];
      }
      if (kind(seen) == CLAIM_AT) {
        under = addCell(REGISTER_CELL, REGISTERS, right[seen], under);
        seen = left[seen];
      }
      if (kind(seen) == 0) {
        into.relate(0, 0, 0, 0, 0);
      } else {
        into.relate(op[seen], left[seen], under, right[seen], under);
      }
    }

    private int rowTerm(int row, int level) {
      boolean isThere = row >= 0 && row < rowCount && level >= 0 && level < REGISTERS;
      return isThere ? rows[row * REGISTERS + level] : -1;
    }

    /** Puts two nodes aside, to be found the same; fresh is a free variable in neither of them. */
    boolean putAside(int node, int env, int otherNode, int otherEnv, int fresh) {
      if (waiting >= PENDING) {
        return false;
      }
      int base = waiting * PENDING_WIDTH;
      pending[base] = node;
      pending[base + 1] = env;
      pending[base + 2] = otherNode;
      pending[base + 3] = otherEnv;
      pending[base + 4] = fresh;
      pending[base + 5] = cells;
      waiting++;
      return true;
    }

    /** Whether two heads are alike; their parts are put aside to be found the same. */
    boolean match(Head one, Head other, int fresh) {
      if (one.op != other.op || one.op == 0) {
        return false;
      }
      switch (one.op) {
        case NUMBER:
        case FREE:
          return one.left == other.left;
        case TRUE:
          return true;
        case ALL:
          if (fresh >= FREE_NODES) {
            return false;
          }
          int env = bind(one.rightEnv, fresh);
          int otherEnv = bind(other.rightEnv, fresh);
          return putAside(one.right, env, other.right, otherEnv, fresh + 1);
        default:
          return putAside(one.right, one.rightEnv, other.right, other.rightEnv, fresh)
              && putAside(one.left, one.leftEnv, other.left, other.leftEnv, fresh);
      }
    }

    /** Whether all that was put aside is the same. */
    boolean allSame() {
      boolean same = true;
      for (int i = 0; i < MOST_VISITS && same && waiting > 0; i++) {
        waiting--;
        int base = waiting * PENDING_WIDTH;
        // What was bound since this pair was put aside is wanted no more.
        cells = pending[base + 5];
        if (pending[base] != pending[base + 2] || pending[base + 1] != pending[base + 3]) {
          int fresh = pending[base + 4];
          look(pending[base + 2], pending[base + 3], theirs);
          look(pending[base], pending[base + 1], mine);
          same = match(mine, theirs, fresh);
        }
      }
      return same && waiting == 0;
    }

    /** Whether a relation has no variable in it and holds. */
    boolean holds(Head relation) {
      int way = relation.op;
      int rightNode = relation.right;
      int rightEnv = relation.rightEnv;
      if (!canReckon(relation.left, relation.leftEnv)) {
        return false;
      }
      int x = values[0];
      if (!canReckon(rightNode, rightEnv)) {
        return false;
      }
      int y = values[0];
      switch (way) {
        case LESS:
          return x < y;
        case AT_MOST:
          return x <= y;
        case EQUAL:
          return x == y;
        case UNEQUAL:
          return x != y;
        default:
          return (long) x + y == x + y;
      }
    }

    /** Whether a term has no variable in it; its value is the first of the values then. */
    private boolean canReckon(int node, int env) {
      waiting = 0;
      valueCount = 0;
      boolean can = putAside(node, env, 0, 0, 0);
      for (int i = 0; i < MOST_VISITS && can && waiting > 0; i++) {
        waiting--;
        int base = waiting * PENDING_WIDTH;
        if (pending[base + 2] != 0) {
          can = combine(pending[base + 2]);
        } else {
          look(pending[base], pending[base + 1], mine);
          can = unfold();
        }
      }
      return can && waiting == 0 && valueCount == 1;
    }

    /** A number is a value; of an operation both terms are put aside, and it behind them. */
    private boolean unfold() {
      switch (mine.op) {
        case NUMBER:
          return addValue(mine.left);
        case PLUS:
        case MINUS:
        case TIMES:
          return putAside(0, 0, mine.op, 0, 0)
              && putAside(mine.right, mine.rightEnv, 0, 0, 0)
              && putAside(mine.left, mine.leftEnv, 0, 0, 0);
        default:
          return false;
      }
    }

    private boolean addValue(int value) {
      if (valueCount >= PENDING) {
        return false;
      }
      values[valueCount] = value;
      valueCount++;
      return true;
    }

    private boolean combine(int way) {
      if (valueCount < 2) {
        return false;
      }
      valueCount -= 2;
      int x = values[valueCount];
      int y = values[valueCount + 1];
      if (way == PLUS) {
        return addValue(x + y);
      }
      return addValue(way == MINUS ? x - y : x * y);
    }
  }

  /** A derivation that is being read: its rule, what it must show, and how far it has come. */
  private static final class Frame {
    final Head wanted = new Head();
    final Head said = new Head();
    final int[] node = new int[SLOTS];
    final int[] env = new int[SLOTS];
    int formula = 0;
    int tag = 0;
    int place = 0;
    int done = -1;
    boolean telling = false;
    int context = 0;
    int nodes = 0;
    int cells = 0;

    void setSlot(int slot, int newNode, int newEnv) {
      node[slot] = newNode;
      env[slot] = newEnv;
    }
  }

  /** Reads terms, formulas and derivations, and looks whether these show what they must. */
  private static final class Checker {
    final Formulas formulas;
    final Frame[] frames = new Frame[MOST_DERIVATION_TAGS + 1];
    final Head[] hypotheses = new Head[MOST_DERIVATION_TAGS + 1];
    final boolean[] isVariable = new boolean[MOST_DERIVATION_TAGS + 1];
    final int[] registerUses = new int[REGISTERS];
    final Head said = new Head();
    final Head first = new Head();
    final Head second = new Head();
    final Head third = new Head();
    final Head fourth = new Head();
    Parcel parcel = new Parcel(0);
    boolean inClaim = false;
    int claimNodes = 0;
    int context = 0;
    int depth = 0;

    Checker(Formulas formulas) {
      this.formulas = formulas;
      for (int i = 0; i < frames.length; i++) {
        frames[i] = new Frame();
        hypotheses[i] = new Head();
      }
    }

    /** Answers the node of a claim, and counts its nodes and, apart from them, its registers. */
    int readClaim(Parcel from) {
      parcel = from;
      inClaim = true;
      claimNodes = 0;
      Arrays.fill(registerUses, 0);
      int root = readFormula(1, 0);
      inClaim = false;
      return root;
    }

    private int refuse(int number, int where) {
      parcel.fail(number, where);
      return -1;
    }

    /** Answers the node; behind a fault it is of no use. */
    private int readFormula(int tags, int binders) {
      int where = parcel.at;
      int tag = parcel.next();
      if (!parcel.isWell()) {
        return -1;
      }
      if (tags > MOST_TAGS) {
        return refuse(DEEP, where);
      }
      if (tag == TRUE) {
        return keep(TRUE, 0, 0);
      }
      if (tag == ALL) {
        int body = readFormula(tags + 1, binders + 1);
        return keep(ALL, 0, body);
      }
      if (tag == AND || tag == IMPLIES) {
        int left = readFormula(tags + 1, binders);
        int right = parcel.isWell() ? readFormula(tags + 1, binders) : -1;
        return keep(tag, left, right);
      }
      if (tag >= LESS && tag <= FITS) {
        int left = readTerm(tags + 1, binders);
        int right = parcel.isWell() ? readTerm(tags + 1, binders) : -1;
        return keep(tag, left, right);
      }
      return refuse(inClaim ? CLAIM : DERIVATION, where);
    }

    private int readTerm(int tags, int binders) {
      int where = parcel.at;
      int tag = parcel.next();
      if (!parcel.isWell()) {
        return -1;
      }
      if (tags > MOST_TAGS) {
        return refuse(DEEP, where);
      }
      if (tag == NUMBER) {
        return keep(NUMBER, parcel.nextInt(), 0);
      }
      if (tag == PLUS || tag == MINUS || tag == TIMES) {
        int left = readTerm(tags + 1, binders);
        int right = parcel.isWell() ? readTerm(tags + 1, binders) : -1;
        return keep(tag, left, right);
      }
      if (tag == VARIABLE) {
        return inClaim ? claimVariable(where, binders) : variable(where, binders);
      }
      if (tag == REGISTER && inClaim) {
        return claimRegister(where);
      }
      return refuse(inClaim ? CLAIM : DERIVATION, where);
    }

    private int keep(int tag, int left, int right) {
      if (!parcel.isWell()) {
        return -1;
      }
      claimNodes++;
      return formulas.make(tag, left, right);
    }

    /** In a claim the registers are the outermost variables. */
    private int claimVariable(int where, int binders) {
      int between = parcel.next();
      if (between >= binders) {
        parcel.fail(CLAIM, where);
      }
      claimNodes++;
      return formulas.make(VARIABLE, REGISTERS + binders - 1 - between, 0);
    }

    private int claimRegister(int where) {
      int which = parcel.next();
      if (which >= REGISTERS) {
        parcel.fail(CLAIM, where);
        return -1;
      }
      registerUses[which]++;
      return formulas.make(VARIABLE, which, 0);
    }

    private int variable(int where, int binders) {
      int between = parcel.next();
      if (between < binders) {
        return formulas.make(VARIABLE, binders - 1 - between, 0);
      }
      int level = context - 1 - (between - binders);
      if (level < 0 || !isVariable[level]) {
        parcel.fail(DERIVATION, where);
      }
      // The free variable of a level is the node of that number.
      return level;
    }

    /** A derivation of the formula at a node comes next. */
    void begin(Parcel from, int root) {
      parcel = from;
      context = 0;
      depth = 0;
      Frame whole = push();
      formulas.look(root, 0, whole.wanted);
    }

    boolean isBusy() {
      return depth > 0 && parcel.isWell();
    }

    private Frame push() {
      // One frame more than may be is at hand, so that a tag that stands too deep is read, too.
      Frame frame = frames[depth < frames.length ? depth : frames.length - 1];
      depth++;
      frame.done = -1;
      frame.telling = false;
      frame.context = context;
      frame.nodes = formulas.top;
      frame.cells = formulas.cells;
      return frame;
    }

    /** Goes on with the innermost derivation; a fault is told by the parcel. */
    void advance() {
      if (depth < 1 || depth > frames.length) {
        return;
      }
      Frame frame = frames[depth - 1];
      context = frame.context;
      frame.done++;
      boolean suits = true;
      if (frame.done == 0) {
        open(frame);
        if (parcel.isWell() && frame.tag < BY_HYPOTHESIS) {
          int keep = formulas.cells;
          formulas.waiting = 0;
          suits = looksLike(frame) && formulas.allSame();
          formulas.cells = keep;
        }
      } else if (frame.done == 1 && frame.tag > BY_HYPOTHESIS) {
        suits = takeSaid(frame);
      }
      if (!suits) {
        parcel.fail(SHOWN, frame.place);
      }
      if (!parcel.isWell()) {
        return;
      }
      if (frame.done < DERIVATIONS[ruleOf(frame.tag)]) {
        ask(frame);
      } else {
        close(frame);
      }
    }

    /** The place of a rule in the tables of rules, or -1. */
    private static int ruleOf(int tag) {
      if (tag >= BY_TRUE && tag <= BY_BETWEEN) {
        return tag - BY_TRUE;
      }
      if (tag >= BY_HYPOTHESIS && tag <= BY_FOR) {
        return tag - BY_HYPOTHESIS + BY_BETWEEN - BY_TRUE + 1;
      }
      return -1;
    }

    /** Reads the tag and what stands behind it, ahead of its derivations. */
    private void open(Frame frame) {
      frame.place = parcel.at;
      frame.tag = parcel.next();
      if (!parcel.isWell()) {
        return;
      }
      if (depth > MOST_DERIVATION_TAGS) {
        parcel.fail(DEEP, frame.place);
        return;
      }
      int rule = ruleOf(frame.tag);
      if (rule < 0 || frame.telling && frame.tag < BY_HYPOTHESIS) {
        parcel.fail(DERIVATION, frame.place);
        return;
      }
      if (frame.tag == BY_HYPOTHESIS) {
        sayHypothesis(frame);
      } else if (frame.tag == BY_PUT) {
        frame.formula = readFormula(1, 1);
      }
      for (int i = 0; i < TERMS[rule] && parcel.isWell(); i++) {
        frame.setSlot(T + i, readTerm(1, 0), 0);
      }
    }

    private void sayHypothesis(Frame frame) {
      int level = context - 1 - parcel.next();
      if (!parcel.isWell()) {
        return;
      }
      if (level < 0 || isVariable[level]) {
        parcel.fail(DERIVATION, frame.place);
      } else {
        said.copy(hypotheses[level]);
      }
    }

    /**
     * Whether W looks as the rule wants it. The terms of W that the rule speaks of go to slots;
     * what must be the same is put aside.
     */
    private boolean looksLike(Frame frame) {
      Head wanted = frame.wanted;
      frame.setSlot(X, wanted.left, wanted.leftEnv);
      frame.setSlot(Y, wanted.right, wanted.rightEnv);
      switch (frame.tag) {
        case BY_TRUE:
          return wanted.op == TRUE;
        case BY_BOTH:
          return wanted.op == AND;
        case BY_IF:
          return wanted.op == IMPLIES;
        case BY_ANY:
          return wanted.op == ALL;
        case BY_RECKON:
          return wanted.op >= LESS && wanted.op <= FITS && formulas.holds(wanted);
        case BY_PUT:
          formulas.look(frame.formula, formulas.bind(0, frame.node[U]), first);
          return formulas.match(first, wanted, context);
        case BY_NEVER:
        case BY_CASES:
          return true;
        case BY_LESS:
        case BY_CHAIN:
          return wanted.op == AT_MOST;
        case BY_CHAIN_LESS_FIRST:
        case BY_CHAIN_LESS_LAST:
        case BY_BELOW:
          return wanted.op == LESS;
        case BY_APART:
          return wanted.op == UNEQUAL;
        case BY_TURN:
          return wanted.op == EQUAL || wanted.op == UNEQUAL;
        case BY_BETWEEN:
          frame.setSlot(Y, wanted.left, wanted.leftEnv);
          frame.setSlot(K, wanted.right, wanted.rightEnv);
          return wanted.op == FITS;
        default:
          return looksInto(frame);
      }
    }

    /** Of the rules that look into the terms of W. */
    private boolean looksInto(Frame frame) {
      Head wanted = frame.wanted;
      formulas.look(wanted.left, wanted.leftEnv, first);
      formulas.look(wanted.right, wanted.rightEnv, second);
      switch (frame.tag) {
        case BY_SAME:
          return wanted.op == EQUAL && formulas.match(first, second, context);
        case BY_SELF:
          return wanted.op == AT_MOST && formulas.match(first, second, context);
        case BY_STEP:
          frame.setSlot(X, first.left, first.leftEnv);
          return wanted.op == AT_MOST && isNext(first);
        case BY_UP:
          return wanted.op == AT_MOST
              && isNext(second)
              && mustBeSame(second.left, second.leftEnv, wanted.left, wanted.leftEnv);
        case BY_SHIFT:
          return wanted.op == AT_MOST && isShift(frame, X, Y);
        case BY_SHIFT_LESS:
          return wanted.op == LESS && isShift(frame, Y, X);
        case BY_GROUPING:
          return wanted.op == EQUAL && isGrouping();
        case BY_ORDER:
          return wanted.op == EQUAL && isOrder();
        case BY_TAKING_AWAY:
          return wanted.op == EQUAL && isTakingAway(wanted);
        default:
          return false;
      }
    }

    private boolean mustBeSame(int node, int env, int otherNode, int otherEnv) {
      return formulas.putAside(node, env, otherNode, otherEnv, context);
    }

    /** Whether a term is another one + 1. */
    private boolean isNext(Head term) {
      formulas.look(term.right, term.rightEnv, third);
      return term.op == PLUS && third.op == NUMBER && third.left == 1;
    }

    private boolean areSums() {
      return first.op == PLUS && second.op == PLUS;
    }

    /** Whether W relates (one + K) to (other + K). */
    private boolean isShift(Frame frame, int one, int other) {
      frame.setSlot(one, first.left, first.leftEnv);
      frame.setSlot(other, second.left, second.leftEnv);
      frame.setSlot(K, first.right, first.rightEnv);
      return areSums()
          && mustBeSame(first.right, first.rightEnv, second.right, second.rightEnv);
    }

    /** (x + y) + z and x + (y + z). */
    private boolean isGrouping() {
      if (!areSums()) {
        return false;
      }
      formulas.look(first.left, first.leftEnv, third);
      formulas.look(second.right, second.rightEnv, fourth);
      return third.op == PLUS
          && fourth.op == PLUS
          && mustBeSame(third.left, third.leftEnv, second.left, second.leftEnv)
          && mustBeSame(third.right, third.rightEnv, fourth.left, fourth.leftEnv)
          && mustBeSame(first.right, first.rightEnv, fourth.right, fourth.rightEnv);
    }

    /** x + y and y + x. */
    private boolean isOrder() {
      return areSums()
          && mustBeSame(first.left, first.leftEnv, second.right, second.rightEnv)
          && mustBeSame(first.right, first.rightEnv, second.left, second.leftEnv);
    }

    /** (x - y) + y and x. */
    private boolean isTakingAway(Head wanted) {
      formulas.look(first.left, first.leftEnv, third);
      return first.op == PLUS
          && third.op == MINUS
          && mustBeSame(third.right, third.rightEnv, first.right, first.rightEnv)
          && mustBeSame(third.left, third.leftEnv, wanted.right, wanted.rightEnv);
    }

    /** Puts a frame for the next derivation of this one. */
    private void ask(Frame frame) {
      Frame part = push();
      Head wanted = frame.wanted;
      switch (frame.tag) {
        case BY_BOTH:
          if (frame.done == 0) {
            formulas.look(wanted.left, wanted.leftEnv, part.wanted);
          } else {
            formulas.look(wanted.right, wanted.rightEnv, part.wanted);
          }
          break;
        case BY_IF:
          formulas.look(wanted.left, wanted.leftEnv, first);
          assume(first);
          formulas.look(wanted.right, wanted.rightEnv, part.wanted);
          break;
        case BY_ANY:
          formulas.look(wanted.right, formulas.bind(wanted.rightEnv, context), part.wanted);
          addVariable();
          break;
        case BY_CASES:
          assumeCase(frame);
          part.wanted.copy(wanted);
          break;
        case BY_LEFT:
        case BY_RIGHT:
        case BY_FOR:
          part.telling = true;
          break;
        case BY_THEN:
          if (frame.done == 0) {
            part.telling = true;
          } else {
            formulas.look(frame.said.left, frame.said.leftEnv, part.wanted);
          }
          break;
        default:
          askTerms(frame, part.wanted);
          break;
      }
      part.context = context;
    }

    private void askTerms(Frame frame, Head goal) {
      if (frame.tag == BY_PUT && frame.done == 1) {
        formulas.look(frame.formula, formulas.bind(0, frame.node[T]), goal);
      } else if (frame.tag == BY_TURN) {
        goal.relate(frame.wanted.op, frame.node[Y], frame.env[Y], frame.node[X], frame.env[X]);
      } else {
        int at = (frame.tag - BY_PUT) * 4 + frame.done;
        int packed = at >= 0 && at < GOALS.length ? GOALS[at] : 0;
        int one = packed / 10 % 10;
        int other = packed % 10;
        goal.relate(packed / 100, frame.node[one], frame.env[one], frame.node[other],
            frame.env[other]);
      }
    }

    private void assume(Head formula) {
      if (context < hypotheses.length) {
        isVariable[context] = false;
        hypotheses[context].copy(formula);
        context++;
      }
    }

    private void addVariable() {
      if (context < isVariable.length) {
        isVariable[context] = true;
        context++;
      }
    }

    private void assumeCase(Frame frame) {
      if (frame.done == 0) {
        first.relate(LESS, frame.node[T], 0, frame.node[U], 0);
      } else {
        first.relate(AT_MOST, frame.node[U], 0, frame.node[T], 0);
      }
      assume(first);
    }

    /** Behind the first derivation of a rule that tells: whether this one told what it needs. */
    private boolean takeSaid(Frame frame) {
      frame.said.copy(said);
      int needed = frame.tag == BY_THEN ? IMPLIES : frame.tag == BY_FOR ? ALL : AND;
      return said.op == needed;
    }

    private void close(Frame frame) {
      depth--;
      if (frame.tag > BY_HYPOTHESIS) {
        say(frame);
      }
      if (frame.telling) {
        return;
      }
      formulas.waiting = 0;
      if (frame.tag >= BY_HYPOTHESIS
          && !(formulas.match(said, frame.wanted, context) && formulas.allSame())) {
        parcel.fail(SHOWN, frame.place);
      }
      // Nothing of a derivation is wanted when it has shown what it must.
      formulas.top = frame.nodes;
      formulas.cells = frame.cells;
    }

    private void say(Frame frame) {
      Head from = frame.said;
      if (frame.tag == BY_LEFT) {
        formulas.look(from.left, from.leftEnv, said);
      } else if (frame.tag == BY_FOR) {
        formulas.look(from.right, formulas.bind(from.rightEnv, frame.node[T]), said);
      } else {
        formulas.look(from.right, from.rightEnv, said);
      }
    }
  }

  /** The one way in: takes a package, makes the obligation of its code, has it shown. */
  private static final class Gate {
    // Far above the turns that the bytes of any package can take.
    static final int MOST_TURNS = 10000000;

    final Code code;
    final Machine machine;
    final Formulas formulas = new Formulas();
    final Checker checker = new Checker(formulas);
    final int[] claimRoots = new int[MOST_CLAIMS];
    final int[] claimSizes = new int[MOST_CLAIMS];
    final int[] claimUses = new int[MOST_CLAIMS * REGISTERS];
    final int[] parts = new int[MOST_INSTRUCTIONS + 1];
    int partCount = 0;
    // The path that is being made: its registers as terms, and the node that lacks its right part.
    final int[] terms = new int[REGISTERS];
    final int[] sizes = new int[REGISTERS];
    int hole = -1;
    int level = 0;
    boolean ended = false;
    boolean burst = false;
    int total = 0;

    Gate(Code code, Machine machine) {
      this.code = code;
      this.machine = machine;
    }

    /** A fault is told by the parcel. */
    void admit(Parcel from) {
      from.begin();
      formulas.empty();
      partCount = 0;
      total = 0;
      if (from.next() != PACKAGE_BYTE) {
        from.fail(HEAD, 0);
      }
      int instructions = headNumber(from, 1, MOST_INSTRUCTIONS);
      int claims = headNumber(from, 0, MOST_CLAIMS);
      if (from.isWell()) {
        code.take(from, instructions, claims);
      }
      for (int i = 0; i < claims && i < MOST_CLAIMS && from.isWell(); i++) {
        claimRoots[i] = checker.readClaim(from);
        claimSizes[i] = checker.claimNodes;
        System.arraycopy(checker.registerUses, 0, claimUses, i * REGISTERS, REGISTERS);
      }
      if (from.isWell()) {
        oblige(from);
      }
      for (int i = 0; i < partCount && i < parts.length && from.isWell(); i++) {
        checker.begin(from, parts[i]);
        for (int j = 0; j < MOST_TURNS && checker.isBusy(); j++) {
          checker.advance();
        }
        if (checker.isBusy()) {
          from.fail(SHOWN, from.at);
        }
      }
      if (from.at < from.size) {
        from.fail(MORE, from.at);
      }
    }

    private static int headNumber(Parcel from, int least, int most) {
      int where = from.at;
      int value = from.nextShort();
      if (value < least || value > most) {
        from.fail(HEAD, where);
      }
      return from.isWell() ? value : 0;
    }

    private void oblige(Parcel from) {
      burst = false;
      // The first path begins at no MARK.
      for (int i = -1; i < code.count && !burst; i++) {
        if (i < 0 || code.isMark(i)) {
          startPart(i);
          for (int j = i + 1; j < code.count && !ended && !burst; j++) {
            follow(j);
          }
        }
      }
      if (burst) {
        from.fail(ROOM, 0);
      }
    }

    private void startPart(int mark) {
      level = mark < 0 ? 0 : REGISTERS;
      hole = -1;
      ended = false;
      partCount++;
      for (int i = 0; i < REGISTERS; i++) {
        setTerm(i, mark < 0 ? number(0) : formulas.make(VARIABLE, i, 0), 1);
      }
      if (mark >= 0) {
        for (int i = 0; i < REGISTERS; i++) {
          extend(formulas.make(ALL, 0, 0));
        }
        extend(formulas.make(IMPLIES, claimAt(code.n[mark]), 0));
        spend(REGISTERS + 1);
      }
    }

    private int number(int value) {
      return formulas.make(NUMBER, value, 0);
    }

    private void setTerm(int register, int node, int size) {
      if (register < 0 || register >= REGISTERS) {
        return;
      }
      terms[register] = node;
      sizes[register] = size;
      if (size > MOST_TERM_NODES) {
        burst = true;
      }
    }

    private void spend(int nodes) {
      total += nodes;
      if (total > MOST_NODES) {
        burst = true;
      }
    }

    /** Puts a node where the path goes on. */
    private void attach(int node) {
      if (hole >= 0) {
        formulas.setRight(hole, node);
      } else if (partCount > 0 && partCount <= parts.length) {
        parts[partCount - 1] = node;
      }
    }

    /** Puts a node where the path goes on, which goes on as its right part from there. */
    private void extend(int node) {
      attach(node);
      hole = node;
    }

    private void finish(int node) {
      attach(node);
      ended = true;
    }

    private int claimAt(int claim) {
      if (claim < 0 || claim >= MOST_CLAIMS) {
        return -1;
      }
      int size = claimSizes[claim];
      for (int i = 0; i < REGISTERS; i++) {
        size += claimUses[claim * REGISTERS + i] * sizes[i];
      }
      spend(size);
      return formulas.make(CLAIM_AT, claimRoots[claim], formulas.addRow(terms));
    }

    /** The claim of the MARK to which a jump goes. */
    private int claimAtMark(int place) {
      return code.isMark(place) ? claimAt(code.n[place]) : -1;
    }

    private void follow(int place) {
      int op = code.op[place];
      int a = code.a[place];
      int b = code.b[place];
      int n = code.n[place];
      switch (op) {
        case LI:
          setTerm(a, number(n), 1);
          break;
        case MOV:
          setTerm(a, terms[b], sizes[b]);
          break;
        case ADD:
        case SUB:
        case MUL:
          // The ops have the numbers of the terms' tags.
          setTerm(a, formulas.make(op, terms[b], terms[n]), sizes[b] + sizes[n] + 1);
          break;
        case ADDI:
          setTerm(a, formulas.make(PLUS, terms[b], number(n)), sizes[b] + 2);
          break;
        case LD:
          extend(formulas.make(AND, within(machine.rlo, machine.rhi, b, n), 0));
          extend(formulas.make(ALL, 0, 0));
          spend(2);
          setTerm(a, formulas.make(VARIABLE, level, 0), 1);
          level++;
          break;
        case ST:
          extend(formulas.make(AND, within(machine.wlo, machine.whi, b, n), 0));
          spend(1);
          break;
        case JMP:
          finish(claimAtMark(n));
          break;
        case MARK:
          finish(claimAt(n));
          break;
        case HALT:
        case TRAP:
          spend(1);
          finish(formulas.make(TRUE, 0, 0));
          break;
        default:
          branch(op, a, b, n);
          break;
      }
    }

    /** That the cell at register b and n is not below lo, and below hi. */
    private int within(int lo, int hi, int b, int n) {
      int cell = formulas.make(PLUS, terms[b], number(n));
      int low = formulas.make(AT_MOST, number(lo), cell);
      int high = formulas.make(LESS, cell, number(hi));
      spend(5 + 2 * (sizes[b] + 2));
      return formulas.make(AND, low, high);
    }

    private void branch(int op, int a, int b, int n) {
      int x = terms[a];
      int y = terms[b];
      int taken;
      int passed;
      if (op == JLT) {
        taken = formulas.make(LESS, x, y);
        passed = formulas.make(AT_MOST, y, x);
      } else if (op == JLE) {
        taken = formulas.make(AT_MOST, x, y);
        passed = formulas.make(LESS, y, x);
      } else {
        taken = formulas.make(op == JEQ ? EQUAL : UNEQUAL, x, y);
        passed = formulas.make(op == JEQ ? UNEQUAL : EQUAL, x, y);
      }
      spend(3 + 2 * (1 + sizes[a] + sizes[b]));
      int jump = formulas.make(IMPLIES, taken, claimAtMark(n));
      extend(formulas.make(AND, jump, 0));
      extend(formulas.make(IMPLIES, passed, 0));
    }
  }

  /** The words of a source; the last one is its end, or one that is none. */
  private static final class Words {
    Parcel text = new Parcel(0);
    int[] kinds = new int[256];
    int[] places = new int[256];
    long[] values = new long[256];
    int count = 0;
    // The word that is looked at.
    int at = 0;
    int kind = THE_END;
    int place = 0;
    int behind = 0;
    long value = 0;

    /** Finds all words, and looks at the first one. */
    void read(Parcel source) {
      text = source;
      count = 0;
      at = 0;
      behind = 0;
      kind = A_NAME;
      for (int i = 0; i <= source.size && kind != THE_END && kind != BAD_WORD; i++) {
        scan();
        add();
      }
      pass(0);
    }

    private void add() {
      if (count >= kinds.length) {
        kinds = Arrays.copyOf(kinds, kinds.length * 2);
        places = Arrays.copyOf(places, kinds.length);
        values = Arrays.copyOf(values, kinds.length);
      }
      kinds[count] = kind;
      places[count] = place;
      values[count] = value;
      count++;
    }

    /** The place, among the words, of one that stands so far ahead, or of the last one. */
    int ahead(int many) {
      return Math.max(0, Math.min(at + many, count - 1));
    }

    void pass(int many) {
      at = Math.max(0, Math.min(at + many, count - 1));
      kind = kinds[at];
      place = places[at];
      value = values[at];
    }

    private void scan() {
      place = behind;
      while (place < text.size && isBlank(text.byteAt(place))) {
        place++;
      }
      behind = place + 1;
      value = 0;
      int first = text.byteAt(place);
      if (first < 0) {
        kind = THE_END;
      } else if (isLetter(first)) {
        scanName();
      } else if (isDigit(first)) {
        scanNumber();
      } else {
        scanSign(first);
      }
    }

    private static boolean isBlank(int c) {
      return c == 9 || c == 10 || c == 13 || c == 32;
    }

    private static boolean isLetter(int c) {
      return c >= 'a' && c <= 'z';
    }

    private static boolean isDigit(int c) {
      return c >= '0' && c <= '9';
    }

    /** A name is kept as a number, five bits to a letter. */
    private static long spelt(long before, int letter) {
      return before * 32 + (letter - 'a' + 1);
    }

    private void scanName() {
      behind = place;
      while (behind < text.size && isLetter(text.byteAt(behind))) {
        value = spelt(value, text.byteAt(behind));
        behind++;
      }
      kind = behind - place > MOST_LETTERS ? BAD_WORD : keyword(value);
    }

    private static int keyword(long name) {
      int kind = WORD_VAR;
      long word = 0;
      for (int i = 0; i < KEYWORDS.length(); i++) {
        if (KEYWORDS.charAt(i) != ' ') {
          word = spelt(word, KEYWORDS.charAt(i));
        } else if (word == name) {
          return kind;
        } else {
          word = 0;
          kind++;
        }
      }
      return A_NAME;
    }

    private void scanNumber() {
      behind = place;
      kind = A_NUMBER;
      while (behind < text.size && isDigit(text.byteAt(behind))) {
        if (kind == A_NUMBER) {
          value = value * 10 + (text.byteAt(behind) - '0');
        }
        if (value > MOST_NUMBER) {
          kind = BAD_WORD;
        }
        behind++;
      }
    }

    private void scanSign(int first) {
      kind = twofold(first, text.byteAt(place + 1));
      if (kind != BAD_WORD) {
        behind = place + 2;
      } else if (SIGNS.indexOf((char) first) >= 0) {
        kind = first;
      }
    }

    private static int twofold(int first, int second) {
      if (first == '.' && second == '.') {
        return SIGN_TO;
      }
      if (second != '=') {
        return BAD_WORD;
      }
      switch (first) {
        case '=':
          return SIGN_EQUAL;
        case '!':
          return SIGN_UNEQUAL;
        case '<':
          return SIGN_AT_MOST;
        default:
          return BAD_WORD;
      }
    }
  }

  /** Makes the code of a source. */
  private static final class Compiler {
    static final int KIND_VAR = 1;
    static final int KIND_ARR = 2;
    static final int KIND_LOOP = 3;
    static final int MOST_NAMES = CELLS + MOST_LOOPS;

    final Words words = new Words();
    final Code code;
    final Packer packer;
    Parcel source = new Parcel(0);
    // What is known by its name: its kind, its first cell or its register, and how long it is.
    final long[] names = new long[MOST_NAMES];
    final int[] kinds = new int[MOST_NAMES];
    final int[] homes = new int[MOST_NAMES];
    final int[] lengths = new int[MOST_NAMES];
    int known = 0;
    final int[] loopLow = new int[MOST_LOOPS];
    final int[] loopHigh = new int[MOST_LOOPS];
    int loops = 0;
    int nextCell = 0;
    int endOfCells = 0;
    int braces = 0;
    int operands = 0;
    int claim = 0;
    // Jumps to a place that is not known yet are chained by their n.
    int traps = -1;
    int directRegister = 0;
    int directOffset = 0;

    Compiler(Packer packer) {
      this.packer = packer;
      this.code = packer.code;
    }

    /** A fault is told by the source. */
    void translate(Parcel text, int wlo, int whi) {
      start(text, wlo, whi);
      declarations();
      statements(THE_END);
      if (!source.isWell()) {
        return;
      }
      mark();
      code.add(LI, 0, 0, 0);
      code.add(HALT, 0, 0, 0);
      settle(traps);
      mark();
      code.add(TRAP, 0, 0, 1);
      if (code.count > MOST_INSTRUCTIONS) {
        source.fail(NO_ROOM, 0);
      }
    }

    private void start(Parcel text, int wlo, int whi) {
      source = text;
      source.begin();
      words.read(text);
      code.count = 0;
      packer.start();
      known = 0;
      loops = 0;
      nextCell = wlo;
      endOfCells = whi;
      braces = 0;
      claim = 0;
      traps = -1;
    }

    private void refuse(int number) {
      source.fail(number, words.place);
    }

    private void refuseWord() {
      source.fail(words.kind == BAD_WORD ? NO_WORD : WRONG_WORD, words.place);
    }

    private void expect(int kind) {
      if (words.kind == kind) {
        words.pass(1);
      } else {
        source.fail(words.kind == BAD_WORD ? NO_WORD : WRONG_WORD, words.place);
      }
    }

    /** The place of a name among those that are known, or -1. */
    private int find(long name) {
      for (int i = 0; i < known && i < MOST_NAMES; i++) {
        if (names[i] == name) {
          return i;
        }
      }
      return -1;
    }

    private void know(long name, int kind, int home, int length) {
      if (known < MOST_NAMES) {
        names[known] = name;
        kinds[known] = kind;
        homes[known] = home;
        lengths[known] = length;
        known++;
      }
    }

    private void declarations() {
      for (int i = 0; i < TAPE_ROOM && source.isWell(); i++) {
        if (words.kind != WORD_VAR && words.kind != WORD_ARR) {
          return;
        }
        boolean isArr = words.kind == WORD_ARR;
        words.pass(1);
        declare(isArr);
      }
    }

    private void declare(boolean isArr) {
      long name = words.value;
      if (words.kind != A_NAME) {
        refuseWord();
      } else if (find(name) >= 0) {
        refuse(WRONG_NAME);
      } else if (!isArr && nextCell >= endOfCells) {
        refuse(NO_ROOM);
      }
      words.pass(1);
      int length = isArr && source.isWell() ? arrLength() : 1;
      if (source.isWell()) {
        know(name, isArr ? KIND_ARR : KIND_VAR, nextCell, length);
        nextCell += length;
        expect(';');
      }
    }

    private int arrLength() {
      expect('[');
      long length = words.value;
      if (words.kind != A_NUMBER) {
        refuseWord();
      } else if (length < 1 || length > MOST_ELEMENTS) {
        refuse(WRONG_NUMBER);
      } else if (nextCell + length > endOfCells) {
        refuse(NO_ROOM);
      }
      words.pass(1);
      expect(']');
      return source.isWell() ? (int) length : 0;
    }

    private void statements(int stop) {
      for (int i = 0; i < TAPE_ROOM && source.isWell() && words.kind != stop; i++) {
        statement();
      }
    }

    private void statement() {
      operands = 0;
      switch (words.kind) {
        case A_NAME:
          assignment();
          break;
        case WORD_IF:
          choice();
          break;
        case WORD_WHILE:
          whileLoop();
          break;
        case WORD_FOR:
          forLoop();
          break;
        case WORD_RETURN:
          words.pass(1);
          mark();
          sum(0);
          expect(';');
          code.add(HALT, 0, 0, 0);
          break;
        default:
          refuseWord();
          break;
      }
    }

    private void block() {
      if (words.kind != '{') {
        refuseWord();
      } else if (braces >= MOST_BRACES) {
        refuse(TOO_MANY);
      }
      if (source.isWell()) {
        braces++;
        words.pass(1);
        statements('}');
        expect('}');
        braces--;
      }
    }

    private void mark() {
      code.add(MARK, 0, 0, claim);
    }

    /** Adds a jump to a chain of jumps to the same place; answers the chain. */
    private int jump(int op, int a, int b, int chain) {
      int place = code.count;
      code.add(op, a, b, chain);
      return code.has(place) ? place : chain;
    }

    /** The jumps of a chain go to the place that comes next. */
    private void settle(int chain) {
      int at = chain;
      for (int i = 0; i < MOST_INSTRUCTIONS && code.has(at); i++) {
        int before = code.n[at];
        code.n[at] = code.count;
        at = before;
      }
    }

    private void assignment() {
      int target = find(words.value);
      if (target < 0) {
        refuse(WRONG_NAME);
        return;
      }
      boolean isArr = words.kinds[words.ahead(1)] == '[';
      if (kinds[target] != (isArr ? KIND_ARR : KIND_VAR)) {
        refuse(WRONG_KIND);
        return;
      }
      mark();
      if (!isArr) {
        words.pass(1);
        assigned(0);
        code.add(LI, 1, 0, 0);
        code.add(ST, 0, 1, homes[target]);
      } else if (passDirect(target)) {
        int register = directRegister;
        int cell = homes[target] + directOffset;
        assigned(0);
        code.add(ST, 0, register, cell);
      } else {
        index(target, 0);
        assigned(1);
        code.add(ST, 1, 0, homes[target]);
      }
    }

    /** = e ; with e in a register. */
    private void assigned(int k) {
      expect('=');
      sum(k);
      expect(';');
    }

    /** name [ e ] with e in a register, and a trap if it is beyond the arr. */
    private void index(int arr, int k) {
      words.pass(1);
      expect('[');
      sum(k);
      expect(']');
      code.add(LI, k + 1, 0, 0);
      traps = jump(JLT, k, k + 1, traps);
      code.add(LI, k + 1, 0, lengths[arr]);
      traps = jump(JLE, k + 1, k, traps);
    }

    /** Goes behind an access that is direct; else stays at its name. */
    private boolean passDirect(int arr) {
      int index = words.ahead(2);
      int loop = words.kinds[index] == A_NAME ? find(words.values[index]) : -1;
      if (loop < 0 || kinds[loop] != KIND_LOOP) {
        return false;
      }
      int sign = words.kinds[words.ahead(3)];
      int number = words.ahead(4);
      long offset = 0;
      int last = 3;
      if ((sign == '+' || sign == '-') && words.kinds[number] == A_NUMBER) {
        offset = sign == '-' ? -words.values[number] : words.values[number];
        last = 5;
      }
      boolean isWhole = words.kinds[words.ahead(last)] == ']';
      if (!isWhole || !staysWithin(homes[loop], offset, lengths[arr])) {
        return false;
      }
      words.pass(last + 1);
      directRegister = homes[loop];
      directOffset = (int) offset;
      return true;
    }

    private boolean staysWithin(int register, long offset, int length) {
      int loop = register - FIRST_LOOP_REGISTER;
      return loop >= 0
          && loop < MOST_LOOPS
          && loopLow[loop] + offset >= 0
          && loopHigh[loop] + offset <= length;
    }

    /** Comparisons joined by and; answers the chain of jumps that leave when one does not hold. */
    private int conditions() {
      int chain = -1;
      boolean more = true;
      expect('(');
      for (int i = 0; i <= MOST_OPERANDS && more && source.isWell(); i++) {
        chain = comparison(chain);
        more = words.kind == WORD_AND;
        if (more) {
          words.pass(1);
        }
      }
      expect(')');
      return chain;
    }

    private int comparison(int chain) {
      sum(0);
      int sign = words.kind;
      if (sign != '<' && sign != SIGN_AT_MOST && sign != SIGN_EQUAL && sign != SIGN_UNEQUAL) {
        refuseWord();
      }
      words.pass(1);
      sum(1);
      switch (sign) {
        case '<':
          return jump(JLE, 1, 0, chain);
        case SIGN_AT_MOST:
          return jump(JLT, 1, 0, chain);
        case SIGN_EQUAL:
          return jump(JNE, 0, 1, chain);
        default:
          return jump(JEQ, 0, 1, chain);
      }
    }

    private void choice() {
      words.pass(1);
      mark();
      int others = conditions();
      block();
      int ends = jump(JMP, 0, 0, -1);
      settle(others);
      mark();
      if (words.kind == WORD_ELSE) {
        words.pass(1);
        block();
      }
      settle(ends);
      mark();
    }

    private void whileLoop() {
      words.pass(1);
      int again = code.count;
      mark();
      int ends = conditions();
      block();
      code.add(JMP, 0, 0, again);
      settle(ends);
      mark();
    }

    private void forLoop() {
      if (loops >= MOST_LOOPS) {
        refuse(TOO_MANY);
        return;
      }
      words.pass(1);
      long name = words.value;
      if (words.kind != A_NAME) {
        refuseWord();
      } else if (find(name) >= 0) {
        refuse(WRONG_NAME);
      }
      words.pass(1);
      expect('=');
      int low = bound(-MOST_BOUND);
      expect(SIGN_TO);
      int high = bound(low);
      if (source.isWell()) {
        loopBody(name, low, high);
      }
    }

    private int bound(int least) {
      boolean minus = words.kind == '-';
      if (minus) {
        words.pass(1);
      }
      long value = minus ? -words.value : words.value;
      if (words.kind != A_NUMBER) {
        refuseWord();
      } else if (words.value > MOST_BOUND || value < least) {
        refuse(WRONG_NUMBER);
      }
      words.pass(1);
      return source.isWell() ? (int) value : 0;
    }

    private void loopBody(long name, int low, int high) {
      int outside = claim;
      int register = FIRST_LOOP_REGISTER + loops;
      mark();
      code.add(LI, register, 0, low);
      claim = packer.addClaim(outside, register, low, high, false);
      int again = code.count;
      mark();
      code.add(LI, 0, 0, high);
      int ends = jump(JLE, 0, register, -1);
      claim = packer.addClaim(outside, register, low, high, true);
      loopLow[loops] = low;
      loopHigh[loops] = high;
      loops++;
      know(name, KIND_LOOP, register, 0);
      block();
      known--;
      loops--;
      code.add(ADDI, register, register, 1);
      code.add(JMP, 0, 0, again);
      claim = outside;
      settle(ends);
      mark();
    }

    /** e, into register k. */
    private void sum(int k) {
      product(k);
      for (int i = 0; i <= MOST_OPERANDS && source.isWell(); i++) {
        int sign = words.kind;
        if (sign != '+' && sign != '-') {
          return;
        }
        words.pass(1);
        product(k + 1);
        code.add(sign == '+' ? ADD : SUB, k, k, k + 1);
      }
    }

    private void product(int k) {
      factor(k);
      for (int i = 0; i <= MOST_OPERANDS && source.isWell() && words.kind == '*'; i++) {
        words.pass(1);
        factor(k + 1);
        code.add(MUL, k, k, k + 1);
      }
    }

    private void factor(int k) {
      if (!source.isWell()) {
        return;
      }
      int kind = words.kind;
      if (kind == A_NAME) {
        named(k);
      } else if (kind != A_NUMBER && kind != '(' && kind != '-') {
        refuseWord();
      } else if (isOperand(words.place, k, LAST_FREE_REGISTER)) {
        int value = (int) words.value;
        words.pass(1);
        if (kind == A_NUMBER) {
          code.add(LI, k, 0, value);
        } else if (kind == '(') {
          sum(k);
          expect(')');
        } else {
          code.add(LI, k, 0, 0);
          factor(k + 1);
          code.add(SUB, k, k, k + 1);
        }
      }
    }

    /** Counts an operand; it is a fault if there are too many, or if it lies beyond a register. */
    private boolean isOperand(int where, int k, int lastRegister) {
      operands++;
      if (operands > MOST_OPERANDS || k > lastRegister) {
        source.fail(TOO_MANY, where);
      }
      return source.isWell();
    }

    private void named(int k) {
      int where = words.place;
      int which = find(words.value);
      if (which < 0) {
        refuse(WRONG_NAME);
        return;
      }
      boolean isArr = words.kinds[words.ahead(1)] == '[';
      if (isArr != (kinds[which] == KIND_ARR)) {
        refuse(WRONG_KIND);
        return;
      }
      boolean direct = isArr && passDirect(which);
      int register = directRegister;
      int cell = homes[which] + directOffset;
      // To look whether an index is within its arr takes one register more.
      if (!isOperand(where, k, isArr && !direct ? LAST_FREE_REGISTER - 1 : LAST_FREE_REGISTER)) {
        return;
      }
      if (direct) {
        code.add(LD, k, register, cell);
      } else if (isArr) {
        index(which, k);
        code.add(LD, k, k, homes[which]);
      } else {
        words.pass(1);
        plainName(which, k);
      }
    }

    private void plainName(int which, int k) {
      if (kinds[which] == KIND_LOOP) {
        code.add(MOV, k, homes[which], 0);
      } else {
        code.add(LI, k, 0, 0);
        code.add(LD, k, k, homes[which]);
      }
    }
  }

  /**
   * Makes the package of a code that the compiler made. A claim says of the loop variables of the
   * fors around its MARK that they lie between their bounds: claim 0 is TRUE; any other one is the
   * claim around the innermost for AND (lo <= r AND r < hi), or r <= hi at the head of this for.
   *
   * <p>It comes in whatever the source: in three fors an empty if with two direct accesses has the
   * most nodes, some 34 to an instruction, and 15 accesses within one another have the deepest
   * derivations, some 110 tags; both are far from what is too much.
   */
  private static final class Packer {
    static final int MOST_LOOP_CLAIMS = 512;
    static final int CLAIM_LEVEL = REGISTERS;

    // What is known of a register on a path.
    static final int AS_GIVEN = 0;
    static final int IS_NUMBER = 1;
    static final int IS_CHECKED = 2;
    static final int IS_STEPPED = 3;
    static final int IS_OTHER = 4;

    final Parcel out;
    final Code code = new Code();
    final int[] around = new int[MOST_LOOP_CLAIMS];
    final int[] loopRegister = new int[MOST_LOOP_CLAIMS];
    final int[] low = new int[MOST_LOOP_CLAIMS];
    final int[] high = new int[MOST_LOOP_CLAIMS];
    final boolean[] inside = new boolean[MOST_LOOP_CLAIMS];
    int claims = 1;
    int given = 0;
    int context = 0;
    final int[] state = new int[REGISTERS];
    final int[] value = new int[REGISTERS];
    // The levels of the hypotheses that say that a register is not below lo, and below hi.
    final int[] lowLevel = new int[REGISTERS];
    final int[] highLevel = new int[REGISTERS];
    final int[] limit = new int[REGISTERS];

    Packer(Parcel out) {
      this.out = out;
    }

    void start() {
      claims = 1;
    }

    int addClaim(int outside, int register, int lo, int hi, boolean isInside) {
      if (claims >= MOST_LOOP_CLAIMS) {
        return 0;
      }
      around[claims] = outside;
      loopRegister[claims] = register;
      low[claims] = lo;
      high[claims] = hi;
      inside[claims] = isInside;
      claims++;
      return claims - 1;
    }

    void pack() {
      out.size = 0;
      out.add(PACKAGE_BYTE);
      out.addShort(code.count);
      out.addShort(claims);
      for (int i = 0; i < code.count; i++) {
        out.add(code.op[i]);
        out.add(code.a[i]);
        out.add(code.b[i]);
        out.addInt(code.n[i]);
      }
      for (int i = 0; i < claims; i++) {
        writeClaim(i, 0);
      }
      // The first path begins at no MARK.
      for (int i = -1; i < code.count; i++) {
        if (i < 0 || code.isMark(i)) {
          startPath(i);
          boolean ended = false;
          for (int j = i + 1; j < code.count && !ended; j++) {
            ended = deriveOne(code.op[j], code.a[j], code.b[j], code.n[j]);
          }
        }
      }
    }

    private void startPath(int mark) {
      given = 0;
      context = 0;
      Arrays.fill(state, AS_GIVEN);
      if (mark >= 0) {
        given = code.n[mark];
        context = REGISTERS + 1;
        for (int i = 0; i < REGISTERS; i++) {
          out.add(BY_ANY);
        }
        out.add(BY_IF);
      }
    }

    private void writeClaim(int claim, int depth) {
      if (claim <= 0 || claim >= claims || depth > MOST_LOOPS) {
        out.add(TRUE);
        return;
      }
      out.add(AND);
      writeClaim(around[claim], depth + 1);
      out.add(AND);
      out.add(AT_MOST);
      out.addTagged(NUMBER, low[claim]);
      writeRegister(loopRegister[claim]);
      out.add(inside[claim] ? LESS : AT_MOST);
      writeRegister(loopRegister[claim]);
      out.addTagged(NUMBER, high[claim]);
    }

    private void writeRegister(int register) {
      out.add(REGISTER);
      out.add(register);
    }

    private void writeSum(int x, int y) {
      out.add(PLUS);
      out.addTagged(NUMBER, x);
      out.addTagged(NUMBER, y);
    }

    private void reckonTwice() {
      out.add(BY_RECKON);
      out.add(BY_RECKON);
    }

    /** Answers whether the path ends here. */
    private boolean deriveOne(int op, int a, int b, int n) {
      switch (op) {
        case LI:
          state[a] = IS_NUMBER;
          value[a] = n;
          return false;
        case ADDI:
          state[a] = IS_STEPPED;
          return false;
        case LD:
          out.add(BY_BOTH);
          showCell(b, n);
          out.add(BY_ANY);
          context++;
          state[a] = IS_OTHER;
          return false;
        case ST:
          out.add(BY_BOTH);
          showCell(b, n);
          return false;
        case JMP:
          showClaim(code.isMark(n) ? code.n[n] : 0);
          return true;
        case MARK:
          showClaim(n);
          return true;
        case HALT:
        case TRAP:
          out.add(BY_TRUE);
          return true;
        case JLT:
        case JLE:
        case JEQ:
        case JNE:
          passJump(op, a, b, n);
          return false;
        default:
          state[a] = IS_OTHER;
          return false;
      }
    }

    private void passJump(int op, int a, int b, int n) {
      out.add(BY_BOTH);
      out.add(BY_IF);
      context++;
      showClaim(code.isMark(n) ? code.n[n] : 0);
      // The hypothesis of the jump is gone, and that of the way on stands in its place.
      out.add(BY_IF);
      if (op == JLT) {
        lowLevel[a] = context - 1;
      } else if (op == JLE) {
        highLevel[b] = context - 1;
        if (b < FIRST_LOOP_REGISTER) {
          state[b] = IS_CHECKED;
          limit[b] = value[a];
        }
      }
    }

    /** That the cell at register b and n is not below what the policy says, and below it. */
    private void showCell(int b, int n) {
      out.add(BY_BOTH);
      if (state[b] == IS_NUMBER) {
        reckonTwice();
        return;
      }
      boolean isLoop = b >= FIRST_LOOP_REGISTER;
      int lo = isLoop ? low[claimOf(b)] : 0;
      int hi = isLoop ? high[claimOf(b)] : limit[b];
      out.add(BY_CHAIN);
      writeSum(lo, n);
      out.add(BY_RECKON);
      out.add(BY_SHIFT);
      out.addTagged(NUMBER, hi);
      showLow(b);
      out.add(BY_LESS);
      showHigh(b);
      reckonTwice();
      out.add(BY_CHAIN_LESS_FIRST);
      writeSum(hi, n);
      out.add(BY_SHIFT_LESS);
      out.addTagged(NUMBER, lo);
      showLow(b);
      showHigh(b);
      reckonTwice();
      out.add(BY_RECKON);
    }

    /** That a register is not below its low bound. */
    private void showLow(int register) {
      if (register < FIRST_LOOP_REGISTER) {
        out.add(BY_HYPOTHESIS);
        out.add(context - 1 - lowLevel[register]);
      } else {
        out.add(BY_LEFT);
        out.add(BY_RIGHT);
        tellClaim(claimOf(register));
      }
    }

    /** That a register is below its high bound; at the head of a for its jump says so. */
    private void showHigh(int register) {
      int claim = claimOf(register);
      if (register >= FIRST_LOOP_REGISTER && inside[claim]) {
        out.add(BY_RIGHT);
        out.add(BY_RIGHT);
        tellClaim(claim);
      } else {
        out.add(BY_HYPOTHESIS);
        out.add(context - 1 - highLevel[register]);
      }
    }

    /** The claim, of those that are given, that speaks of a loop variable last; 0 if there's none. */
    private int claimOf(int register) {
      int claim = given;
      for (int i = 0; i < MOST_LOOPS && claim != 0 && loopRegister[claim] != register; i++) {
        claim = around[claim];
      }
      return claim;
    }

    /** A claim that is given, or lies around it. */
    private void tellClaim(int claim) {
      int at = given;
      for (int i = 0; i < MOST_LOOPS && at != claim; i++) {
        out.add(BY_LEFT);
        at = around[at];
      }
      out.add(BY_HYPOTHESIS);
      out.add(context - 1 - CLAIM_LEVEL);
    }

    /** The claim of a MARK, at the registers as they are on the path. */
    private void showClaim(int claim) {
      int register = loopRegister[claim];
      if (claim == 0) {
        out.add(BY_TRUE);
        return;
      }
      if (state[register] == AS_GIVEN && claimOf(register) == claim) {
        tellClaim(claim);
        return;
      }
      out.add(BY_BOTH);
      if (around[claim] == 0) {
        out.add(BY_TRUE);
      } else {
        tellClaim(around[claim]);
      }
      out.add(BY_BOTH);
      if (state[register] == IS_NUMBER) {
        reckonTwice();
      } else if (state[register] == IS_STEPPED) {
        out.add(BY_CHAIN);
        out.add(VARIABLE);
        out.add(context - 1 - register);
        showLow(register);
        out.add(BY_UP);
        out.addTagged(NUMBER, high[claim]);
        showHigh(register);
        out.add(BY_STEP);
        showHigh(register);
      } else {
        showLow(register);
        showHigh(register);
      }
    }
  }
}
